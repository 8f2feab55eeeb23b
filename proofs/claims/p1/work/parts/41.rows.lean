set_option maxRecDepth 100000 in
theorem pbegin_c (l : Launch) (G : zG) (hst : l.stackTraces = false) (h0 : Nat) (g1 : Nat) (g2 : Nat) (g3 : Nat) (g4 : Nat) (g5 : Nat) (g6 : Nat) (g7 : Nat) (g8 : Nat) (g9 : Nat) (g10 : Nat) (g11 : Nat) : zMxv l G yX12_begin cX12_begin 3 "java/lang/IllegalStateException" 6 81 1 6 [.ref h0] [(h0, .inr (12, [.ref g1, .ref g2, .int 0, .ref g3, .ref g4, .ref g5, .ref g6, .ref g7, .ref g8, .ref g9, .ref g10, .ref g11, .int 0, .int 0, .int (-1), .int (-1), .int 0, .int 0, .int 0]))] := by
  refine zMxv.intro hst (by decide) (Nat.le_of_ble_eq_true rfl) (fun X hC hT => ?_)
  refine z_aload_n hC (pc := 0) 0 dX12_begin_0 rfl rfl ?_
  refine z_get hC (pc := 1) zf12 0 2 dX12_begin_1 zw710 rfl rfl (kk := ?_)
  refine z_istore_n hC (pc := 4) (lv' := [(1, .int 0), (0, .ref h0)]) dX12_begin_4 rfl (by decide) rfl ?_
  refine z_aload_n hC (pc := 5) 1 dX12_begin_5 rfl rfl ?_
  refine z_iconst hC (pc := 6) (v := 0) dX12_begin_6 (by decide) ?_
  refine z_put hC (pc := 7) zf12 0 2 [(h0, .inr (12, [.ref g1, .ref g2, .int 0, .ref g3, .ref g4, .ref g5, .ref g6, .ref g7, .ref g8, .ref g9, .ref g10, .ref g11, .int 0, .int 0, .int (-1), .int (-1), .int 0, .int 0, .int 0]))] dX12_begin_7 zw710 rfl rfl rfl rfl rfl (kk := ?_)
  refine z_aload_n hC (pc := 10) 1 dX12_begin_10 rfl rfl ?_
  refine z_get hC (pc := 11) zf12 0 12 dX12_begin_11 zw720 rfl rfl (kk := ?_)
  refine z_if_eqT hC (pc := 14) 25 dX12_begin_14 (by decide) (by decide) ?_
  exact hT _ _ _ _ _ _ 154 196 exn dX12_begin_25 dX12_begin_28 dX12_begin_29 dX12_begin_32 (by decide +kernel) (by decide +kernel) zw936 zw20 atg_196 atb_196 ato_196 (by decide) (Nat.le_of_ble_eq_true rfl) (Nat.le_of_ble_eq_true rfl) (Nat.le_of_ble_eq_true rfl)
set_option maxRecDepth 100000 in
theorem pbegin_m (l : Launch) (G : zG) (h0 : Nat) (g1 : Nat) (g2 : Nat) (g3 : Nat) (g4 : Nat) (g5 : Nat) (g6 : Nat) (g7 : Nat) (g8 : Nat) (g9 : Nat) (g10 : Nat) (g11 : Nat) (g12 : Nat) (g13 : Nat) (g14 : Nat) (g15 : Nat) (g16 : Nat) (g17 : Nat) (g18 : Nat) (g19 : Nat) (g20 : Nat) (g21 : Nat) (g22 : Nat) (g23 : Nat) (g24 : Nat) (g25 : Nat) (g26 : Nat) (g27 : Nat) (g28 : Nat) (g29 : Nat) (g30 : Nat) (g31 : Nat) (g32 : Nat) (g33 : Nat) (g34 : Nat) (g35 : Nat) (g36 : Nat) (g37 : Nat) (g38 : Nat) (g39 : Nat) (g40 : Nat) (g41 : Nat) (g42 : Nat) (g43 : Nat) (g44 : Nat) (g45 : Nat) (g46 : Nat) (g47 : Nat) (g48 : Nat) (g49 : Nat) (g50 : Nat) (g51 : Nat) (g52 : Nat) (g53 : Nat) (g54 : Nat) (g55 : Nat) (g56 : Nat) (g57 : Nat) (g58 : Nat) (g59 : Nat) (g60 : Nat) (g61 : Nat) (g62 : Nat) (g63 : Nat) (g64 : Nat) (g65 : Nat) (g66 : Nat) (g67 : Nat) (g68 : Nat) (g69 : Nat) (g70 : Nat) (g71 : Nat) (g72 : Nat) (g73 : Nat) : zMv l G yX14_begin cX14_begin 3 1 20 0 0 [.ref h0] [(h0, .inr (14, [.int 0, .ref g1, .ref g2, .int 0, .ref g3, .ref g4, .ref g5, .null, .null, .null, .int 0, .int 0, .int 0, .int 0, .int 0, .null, .int 0, .int 0, .int 0, .int 0, .ref g6, .int 0, .int 0, .int 0, .int 0, .int 0, .ref g7, .ref g8, .int 0, .int 0, .int 0, .int 0, .int (-1), .int (-1), .ref g9, .ref g10, .ref g11, .ref g12, .int 0, .int 0, .ref g13, .int 0, .int 0, .int 0, .int 0, .int 0, .ref g14, .ref g15, .ref g16, .ref g17, .ref g18, .ref g19, .ref g20, .ref g21, .ref g22, .ref g23, .ref g24, .ref g25, .ref g26, .ref g27, .int 0, .ref g28, .ref g29, .ref g30, .ref g31, .int 0, .int 0, .int 0, .int 0, .ref g32, .int 0, .int 0, .int 0, .int 0, .int 0, .ref g33, .ref g34, .ref g35, .ref g36, .ref g37, .int 0, .int 0, .int 0, .int 0, .ref g38, .ref g39, .ref g40, .ref g41, .int 0, .ref g42, .ref g43, .ref g44, .int 0, .ref g45, .int 0, .ref g46, .int 0, .int 0, .int 0, .int 0, .int 0, .int 0, .ref g47, .int 0, .int 0, .ref g48, .ref g49, .ref g50, .ref g51, .ref g52, .ref g53, .ref g54, .int 0, .int 0, .ref g55, .ref g56, .ref g57, .ref g58, .int 0, .int 0, .ref g59, .ref g60, .int 0, .int 0, .ref g61, .ref g62, .ref g63, .ref g64, .ref g65, .ref g66, .ref g67, .ref g68, .ref g69, .ref g70, .ref g71, .int 0, .ref g72, .int 0, .ref g73]))] (fun w => w = [(h0, .inr (14, [.int 1, .ref g1, .ref g2, .int 0, .ref g3, .ref g4, .ref g5, .null, .null, .null, .int 0, .int 0, .int 0, .int 0, .int 0, .null, .int 0, .int 0, .int 0, .int 0, .ref g6, .int 0, .int 0, .int 0, .int 0, .int 0, .ref g7, .ref g8, .int 0, .int 0, .int 0, .int 0, .int (-1), .int (-1), .ref g9, .ref g10, .ref g11, .ref g12, .int 0, .int 0, .ref g13, .int 0, .int 0, .int 0, .int 0, .int 0, .ref g14, .ref g15, .ref g16, .ref g17, .ref g18, .ref g19, .ref g20, .ref g21, .ref g22, .ref g23, .ref g24, .ref g25, .ref g26, .ref g27, .int 0, .ref g28, .ref g29, .ref g30, .ref g31, .int 0, .int 0, .int 0, .int 0, .ref g32, .int 0, .int 0, .int 0, .int 0, .int 0, .ref g33, .ref g34, .ref g35, .ref g36, .ref g37, .int 0, .int 0, .int 0, .int 0, .ref g38, .ref g39, .ref g40, .ref g41, .int 0, .ref g42, .ref g43, .ref g44, .int 0, .ref g45, .int 0, .ref g46, .int 0, .int 0, .int 0, .int 0, .int 0, .int 0, .ref g47, .int 0, .int 0, .ref g48, .ref g49, .ref g50, .ref g51, .ref g52, .ref g53, .ref g54, .int 0, .int 0, .ref g55, .ref g56, .ref g57, .ref g58, .int 0, .int 0, .ref g59, .ref g60, .int 0, .int 0, .ref g61, .ref g62, .ref g63, .ref g64, .ref g65, .ref g66, .ref g67, .ref g68, .ref g69, .ref g70, .ref g71, .int 0, .ref g72, .int 0, .ref g73]))]) := by
  refine zMv.intro (by decide) (Nat.le_of_ble_eq_true rfl) (fun X hC hR => ?_)
  refine z_aload_n hC (pc := 0) 0 dX14_begin_0 rfl rfl ?_
  refine z_iconst hC (pc := 1) (v := 0) dX14_begin_1 (by decide) ?_
  refine z_put hC (pc := 2) zf14 0 0 [(h0, .inr (14, [.int 0, .ref g1, .ref g2, .int 0, .ref g3, .ref g4, .ref g5, .null, .null, .null, .int 0, .int 0, .int 0, .int 0, .int 0, .null, .int 0, .int 0, .int 0, .int 0, .ref g6, .int 0, .int 0, .int 0, .int 0, .int 0, .ref g7, .ref g8, .int 0, .int 0, .int 0, .int 0, .int (-1), .int (-1), .ref g9, .ref g10, .ref g11, .ref g12, .int 0, .int 0, .ref g13, .int 0, .int 0, .int 0, .int 0, .int 0, .ref g14, .ref g15, .ref g16, .ref g17, .ref g18, .ref g19, .ref g20, .ref g21, .ref g22, .ref g23, .ref g24, .ref g25, .ref g26, .ref g27, .int 0, .ref g28, .ref g29, .ref g30, .ref g31, .int 0, .int 0, .int 0, .int 0, .ref g32, .int 0, .int 0, .int 0, .int 0, .int 0, .ref g33, .ref g34, .ref g35, .ref g36, .ref g37, .int 0, .int 0, .int 0, .int 0, .ref g38, .ref g39, .ref g40, .ref g41, .int 0, .ref g42, .ref g43, .ref g44, .int 0, .ref g45, .int 0, .ref g46, .int 0, .int 0, .int 0, .int 0, .int 0, .int 0, .ref g47, .int 0, .int 0, .ref g48, .ref g49, .ref g50, .ref g51, .ref g52, .ref g53, .ref g54, .int 0, .int 0, .ref g55, .ref g56, .ref g57, .ref g58, .int 0, .int 0, .ref g59, .ref g60, .int 0, .int 0, .ref g61, .ref g62, .ref g63, .ref g64, .ref g65, .ref g66, .ref g67, .ref g68, .ref g69, .ref g70, .ref g71, .int 0, .ref g72, .int 0, .ref g73]))] dX14_begin_2 zw2468 rfl rfl rfl rfl rfl (kk := ?_)
  refine z_aload_n hC (pc := 5) 0 dX14_begin_5 rfl rfl ?_
  refine z_callVv hC (pc := 6) (k := 0) (n := 0) (As := []) (wr := []) (kX14_take_53 l G h0 g1 g2 g3 g4 g5 g6 g7 g8 g9 g10 g11 g12 g13 g14 g15 g16 g17 g18 g19 g20 g21 g22 g23 g24 g25 g26 g27 g28 g29 g30 g31 g32 g33 g34 g35 g36 g37 g38 g39 g40 g41 g42 g43 g44 g45 g46 g47 g48 g49 g50 g51 g52 g53 g54 g55 g56 g57 g58 g59 g60 g61 g62 g63 g64 g65 g66 g67 g68 g69 g70 g71 g72 g73) dmX14_take zf14 0 rfl [0] [] rfl rfl rfl dX14_begin_6 zw2905 rfl rfl (Nat.le_of_ble_eq_true rfl) (Nat.le_of_ble_eq_true rfl) (Nat.le_of_ble_eq_true rfl) (Nat.le_of_ble_eq_true rfl) (Nat.le_of_ble_eq_true rfl) (fun w hp => ?_)
  obtain rfl := hp
  refine z_aload_n hC (pc := 9) 0 dX14_begin_9 rfl rfl ?_
  refine z_get hC (pc := 10) zf14 0 8 dX14_begin_10 zw2476 rfl rfl (kk := ?_)
  refine z_ifnullN hC (pc := 13) 23 dX14_begin_13 (by decide) ?_
  refine z_aload_n hC (pc := 23) 0 dX14_begin_23 rfl rfl ?_
  refine z_iconst hC (pc := 24) (v := 1) dX14_begin_24 (by decide) ?_
  refine z_put hC (pc := 25) zf14 0 0 [(h0, .inr (14, [.int 1, .ref g1, .ref g2, .int 0, .ref g3, .ref g4, .ref g5, .null, .null, .null, .int 0, .int 0, .int 0, .int 0, .int 0, .null, .int 0, .int 0, .int 0, .int 0, .ref g6, .int 0, .int 0, .int 0, .int 0, .int 0, .ref g7, .ref g8, .int 0, .int 0, .int 0, .int 0, .int (-1), .int (-1), .ref g9, .ref g10, .ref g11, .ref g12, .int 0, .int 0, .ref g13, .int 0, .int 0, .int 0, .int 0, .int 0, .ref g14, .ref g15, .ref g16, .ref g17, .ref g18, .ref g19, .ref g20, .ref g21, .ref g22, .ref g23, .ref g24, .ref g25, .ref g26, .ref g27, .int 0, .ref g28, .ref g29, .ref g30, .ref g31, .int 0, .int 0, .int 0, .int 0, .ref g32, .int 0, .int 0, .int 0, .int 0, .int 0, .ref g33, .ref g34, .ref g35, .ref g36, .ref g37, .int 0, .int 0, .int 0, .int 0, .ref g38, .ref g39, .ref g40, .ref g41, .int 0, .ref g42, .ref g43, .ref g44, .int 0, .ref g45, .int 0, .ref g46, .int 0, .int 0, .int 0, .int 0, .int 0, .int 0, .ref g47, .int 0, .int 0, .ref g48, .ref g49, .ref g50, .ref g51, .ref g52, .ref g53, .ref g54, .int 0, .int 0, .ref g55, .ref g56, .ref g57, .ref g58, .int 0, .int 0, .ref g59, .ref g60, .int 0, .int 0, .ref g61, .ref g62, .ref g63, .ref g64, .ref g65, .ref g66, .ref g67, .ref g68, .ref g69, .ref g70, .ref g71, .int 0, .ref g72, .int 0, .ref g73]))] dX14_begin_25 zw2468 rfl rfl rfl rfl rfl (kk := ?_)
  exact hR _ _ _ _ _ dX14_begin_28 (Nat.le_of_ble_eq_true rfl) (Nat.le_of_ble_eq_true rfl) rfl
set_option maxRecDepth 100000 in
theorem prun0_c (l : Launch) (G : zG) (hst : l.stackTraces = false) (h0 : Nat) (x1 : Int32) (g2 : Nat) (g3 : Nat) (g4 : Nat) (g5 : Nat) (g6 : Nat) (g7 : Nat) (g8 : Nat) (g9 : Nat) (g10 : Nat) (g11 : Nat) (g12 : Nat) (hy1 : x1 < 1) : zMxi l G yX12_run cX12_run 3 .int "java/lang/IllegalArgumentException" 6 81 1 6 [.ref h0, .int x1] [(h0, .inr (12, [.ref g2, .ref g3, .int 0, .ref g4, .ref g5, .ref g6, .ref g7, .ref g8, .ref g9, .ref g10, .ref g11, .ref g12, .int 0, .int 0, .int (-1), .int (-1), .int 0, .int 0, .int 0]))] := by
  refine zMxi.intro hst (by decide) (Nat.le_of_ble_eq_true rfl) (fun X hC hT => ?_)
  refine z_iload_n hC (pc := 0) 1 dX12_run_0 rfl rfl ?_
  refine z_iconst hC (pc := 1) (v := 1) dX12_run_1 (by decide) ?_
  refine z_icmp_ltT hC (pc := 2) 12 dX12_run_2 (by decide) hy1 ?_
  exact hT _ _ _ _ _ _ 123 125 exn dX12_run_12 dX12_run_15 dX12_run_16 dX12_run_19 (by decide +kernel) (by decide +kernel) zw1740 zw27 atg_125 atb_125 ato_125 (by decide) (Nat.le_of_ble_eq_true rfl) (Nat.le_of_ble_eq_true rfl) (Nat.le_of_ble_eq_true rfl)
set_option maxRecDepth 100000 in
theorem prun0_m (l : Launch) (G : zG) (h0 : Nat) (x1 : Int32) (g2 : Nat) (g3 : Nat) (g4 : Nat) (g5 : Nat) (g6 : Nat) (g7 : Nat) (g8 : Nat) (g9 : Nat) (g10 : Nat) (g11 : Nat) (g12 : Nat) (g13 : Nat) (g14 : Nat) (g15 : Nat) (g16 : Nat) (g17 : Nat) (g18 : Nat) (g19 : Nat) (g20 : Nat) (g21 : Nat) (g22 : Nat) (g23 : Nat) (g24 : Nat) (g25 : Nat) (g26 : Nat) (g27 : Nat) (g28 : Nat) (g29 : Nat) (g30 : Nat) (g31 : Nat) (g32 : Nat) (g33 : Nat) (g34 : Nat) (g35 : Nat) (g36 : Nat) (g37 : Nat) (g38 : Nat) (g39 : Nat) (g40 : Nat) (g41 : Nat) (g42 : Nat) (g43 : Nat) (g44 : Nat) (g45 : Nat) (g46 : Nat) (g47 : Nat) (g48 : Nat) (g49 : Nat) (g50 : Nat) (g51 : Nat) (g52 : Nat) (g53 : Nat) (g54 : Nat) (g55 : Nat) (g56 : Nat) (g57 : Nat) (g58 : Nat) (g59 : Nat) (g60 : Nat) (g61 : Nat) (g62 : Nat) (g63 : Nat) (g64 : Nat) (g65 : Nat) (g66 : Nat) (g67 : Nat) (g68 : Nat) (g69 : Nat) (g70 : Nat) (g71 : Nat) (g72 : Nat) (g73 : Nat) (g74 : Nat) (hy1 : x1 < 1) : zMi l G yX14_run cX14_run 2 .int 0 0 0 0 [.ref h0, .int x1] [(h0, .inr (14, [.int 0, .ref g2, .ref g3, .int 0, .ref g4, .ref g5, .ref g6, .null, .null, .null, .int 0, .int 0, .int 0, .int 0, .int 0, .null, .int 0, .int 0, .int 0, .int 0, .ref g7, .int 0, .int 0, .int 0, .int 0, .int 0, .ref g8, .ref g9, .int 0, .int 0, .int 0, .int 0, .int (-1), .int (-1), .ref g10, .ref g11, .ref g12, .ref g13, .int 0, .int 0, .ref g14, .int 0, .int 0, .int 0, .int 0, .int 0, .ref g15, .ref g16, .ref g17, .ref g18, .ref g19, .ref g20, .ref g21, .ref g22, .ref g23, .ref g24, .ref g25, .ref g26, .ref g27, .ref g28, .int 0, .ref g29, .ref g30, .ref g31, .ref g32, .int 0, .int 0, .int 0, .int 0, .ref g33, .int 0, .int 0, .int 0, .int 0, .int 0, .ref g34, .ref g35, .ref g36, .ref g37, .ref g38, .int 0, .int 0, .int 0, .int 0, .ref g39, .ref g40, .ref g41, .ref g42, .int 0, .ref g43, .ref g44, .ref g45, .int 0, .ref g46, .int 0, .ref g47, .int 0, .int 0, .int 0, .int 0, .int 0, .int 0, .ref g48, .int 0, .int 0, .ref g49, .ref g50, .ref g51, .ref g52, .ref g53, .ref g54, .ref g55, .int 0, .int 0, .ref g56, .ref g57, .ref g58, .ref g59, .int 0, .int 0, .ref g60, .ref g61, .int 0, .int 0, .ref g62, .ref g63, .ref g64, .ref g65, .ref g66, .ref g67, .ref g68, .ref g69, .ref g70, .ref g71, .ref g72, .int 0, .ref g73, .int 0, .ref g74]))] (fun r w => r = 0 ∧ w = [(h0, .inr (14, [.int 1, .ref g2, .ref g3, .int 0, .ref g4, .ref g5, .ref g6, .null, .null, .null, .int 0, .int 0, .int 0, .int 0, .int 0, .null, .int 0, .int 0, .int 0, .int 0, .ref g7, .int 0, .int 0, .int 0, .int 0, .int 0, .ref g8, .ref g9, .int 0, .int 0, .int 0, .int 0, .int (-1), .int (-1), .ref g10, .ref g11, .ref g12, .ref g13, .int 0, .int 0, .ref g14, .int 0, .int 0, .int 0, .int 0, .int 0, .ref g15, .ref g16, .ref g17, .ref g18, .ref g19, .ref g20, .ref g21, .ref g22, .ref g23, .ref g24, .ref g25, .ref g26, .ref g27, .ref g28, .int 0, .ref g29, .ref g30, .ref g31, .ref g32, .int 0, .int 0, .int 0, .int 0, .ref g33, .int 0, .int 0, .int 0, .int 0, .int 0, .ref g34, .ref g35, .ref g36, .ref g37, .ref g38, .int 0, .int 0, .int 0, .int 0, .ref g39, .ref g40, .ref g41, .ref g42, .int 0, .ref g43, .ref g44, .ref g45, .int 0, .ref g46, .int 0, .ref g47, .int 0, .int 0, .int 0, .int 0, .int 0, .int 0, .ref g48, .int 0, .int 0, .ref g49, .ref g50, .ref g51, .ref g52, .ref g53, .ref g54, .ref g55, .int 0, .int 0, .ref g56, .ref g57, .ref g58, .ref g59, .int 0, .int 0, .ref g60, .ref g61, .int 0, .int 0, .ref g62, .ref g63, .ref g64, .ref g65, .ref g66, .ref g67, .ref g68, .ref g69, .ref g70, .ref g71, .ref g72, .int 0, .ref g73, .int 0, .ref g74]))]) := by
  refine zMi.intro (by decide) (Nat.le_of_ble_eq_true rfl) (fun X hC hR => ?_)
  refine z_aload_n hC (pc := 0) 0 dX14_run_0 rfl rfl ?_
  refine z_iconst hC (pc := 1) (v := 0) dX14_run_1 (by decide) ?_
  refine z_put hC (pc := 2) zf14 0 0 [(h0, .inr (14, [.int 0, .ref g2, .ref g3, .int 0, .ref g4, .ref g5, .ref g6, .null, .null, .null, .int 0, .int 0, .int 0, .int 0, .int 0, .null, .int 0, .int 0, .int 0, .int 0, .ref g7, .int 0, .int 0, .int 0, .int 0, .int 0, .ref g8, .ref g9, .int 0, .int 0, .int 0, .int 0, .int (-1), .int (-1), .ref g10, .ref g11, .ref g12, .ref g13, .int 0, .int 0, .ref g14, .int 0, .int 0, .int 0, .int 0, .int 0, .ref g15, .ref g16, .ref g17, .ref g18, .ref g19, .ref g20, .ref g21, .ref g22, .ref g23, .ref g24, .ref g25, .ref g26, .ref g27, .ref g28, .int 0, .ref g29, .ref g30, .ref g31, .ref g32, .int 0, .int 0, .int 0, .int 0, .ref g33, .int 0, .int 0, .int 0, .int 0, .int 0, .ref g34, .ref g35, .ref g36, .ref g37, .ref g38, .int 0, .int 0, .int 0, .int 0, .ref g39, .ref g40, .ref g41, .ref g42, .int 0, .ref g43, .ref g44, .ref g45, .int 0, .ref g46, .int 0, .ref g47, .int 0, .int 0, .int 0, .int 0, .int 0, .int 0, .ref g48, .int 0, .int 0, .ref g49, .ref g50, .ref g51, .ref g52, .ref g53, .ref g54, .ref g55, .int 0, .int 0, .ref g56, .ref g57, .ref g58, .ref g59, .int 0, .int 0, .ref g60, .ref g61, .int 0, .int 0, .ref g62, .ref g63, .ref g64, .ref g65, .ref g66, .ref g67, .ref g68, .ref g69, .ref g70, .ref g71, .ref g72, .int 0, .ref g73, .int 0, .ref g74]))] dX14_run_2 zw2468 rfl rfl rfl rfl rfl (kk := ?_)
  refine z_iload_n hC (pc := 5) 1 dX14_run_5 rfl rfl ?_
  refine z_iconst hC (pc := 6) (v := 1) dX14_run_6 (by decide) ?_
  refine z_icmp_ltT hC (pc := 7) 17 dX14_run_7 (by decide) hy1 ?_
  refine z_aload_n hC (pc := 17) 0 dX14_run_17 rfl rfl ?_
  refine z_iconst hC (pc := 18) (v := 1) dX14_run_18 (by decide) ?_
  refine z_put hC (pc := 19) zf14 0 0 [(h0, .inr (14, [.int 1, .ref g2, .ref g3, .int 0, .ref g4, .ref g5, .ref g6, .null, .null, .null, .int 0, .int 0, .int 0, .int 0, .int 0, .null, .int 0, .int 0, .int 0, .int 0, .ref g7, .int 0, .int 0, .int 0, .int 0, .int 0, .ref g8, .ref g9, .int 0, .int 0, .int 0, .int 0, .int (-1), .int (-1), .ref g10, .ref g11, .ref g12, .ref g13, .int 0, .int 0, .ref g14, .int 0, .int 0, .int 0, .int 0, .int 0, .ref g15, .ref g16, .ref g17, .ref g18, .ref g19, .ref g20, .ref g21, .ref g22, .ref g23, .ref g24, .ref g25, .ref g26, .ref g27, .ref g28, .int 0, .ref g29, .ref g30, .ref g31, .ref g32, .int 0, .int 0, .int 0, .int 0, .ref g33, .int 0, .int 0, .int 0, .int 0, .int 0, .ref g34, .ref g35, .ref g36, .ref g37, .ref g38, .int 0, .int 0, .int 0, .int 0, .ref g39, .ref g40, .ref g41, .ref g42, .int 0, .ref g43, .ref g44, .ref g45, .int 0, .ref g46, .int 0, .ref g47, .int 0, .int 0, .int 0, .int 0, .int 0, .int 0, .ref g48, .int 0, .int 0, .ref g49, .ref g50, .ref g51, .ref g52, .ref g53, .ref g54, .ref g55, .int 0, .int 0, .ref g56, .ref g57, .ref g58, .ref g59, .int 0, .int 0, .ref g60, .ref g61, .int 0, .int 0, .ref g62, .ref g63, .ref g64, .ref g65, .ref g66, .ref g67, .ref g68, .ref g69, .ref g70, .ref g71, .ref g72, .int 0, .ref g73, .int 0, .ref g74]))] dX14_run_19 zw2468 rfl rfl rfl rfl rfl (kk := ?_)
  refine z_goto hC (pc := 22) 37 dX14_run_22 (by decide) ?_
  refine z_aload_n hC (pc := 37) 0 dX14_run_37 rfl rfl ?_
  refine z_get hC (pc := 38) zf14 0 0 dX14_run_38 zw2468 rfl rfl (kk := ?_)
  refine z_if_eqF hC (pc := 41) 46 dX14_run_41 (by decide) (by decide) ?_
  refine z_iconst hC (pc := 44) (v := 0) dX14_run_44 (by decide) ?_
  exact hR _ _ _ _ _ _ dX14_run_45 rfl (Nat.le_of_ble_eq_true rfl) (Nat.le_of_ble_eq_true rfl) ⟨rfl, rfl⟩
set_option maxRecDepth 100000 in
theorem prun1_c (l : Launch) (G : zG) (hst : l.stackTraces = false) (h0 : Nat) (x1 : Int32) (g2 : Nat) (g3 : Nat) (g4 : Nat) (g5 : Nat) (g6 : Nat) (g7 : Nat) (g8 : Nat) (g9 : Nat) (g10 : Nat) (g11 : Nat) (g12 : Nat) (hy1 : ¬ x1 < 1) (hy2 : 12000 < x1) : zMxi l G yX12_run cX12_run 3 .int "java/lang/IllegalArgumentException" 6 81 1 6 [.ref h0, .int x1] [(h0, .inr (12, [.ref g2, .ref g3, .int 0, .ref g4, .ref g5, .ref g6, .ref g7, .ref g8, .ref g9, .ref g10, .ref g11, .ref g12, .int 0, .int 0, .int (-1), .int (-1), .int 0, .int 0, .int 0]))] := by
  refine zMxi.intro hst (by decide) (Nat.le_of_ble_eq_true rfl) (fun X hC hT => ?_)
  refine z_iload_n hC (pc := 0) 1 dX12_run_0 rfl rfl ?_
  refine z_iconst hC (pc := 1) (v := 1) dX12_run_1 (by decide) ?_
  refine z_icmp_ltF hC (pc := 2) 12 dX12_run_2 (by decide) hy1 ?_
  refine z_iload_n hC (pc := 5) 1 dX12_run_5 rfl rfl ?_
  refine z_sipush hC (pc := 6) (v := 12000) dX12_run_6 (by decide) ?_
  refine z_icmp_leF hC (pc := 9) 20 dX12_run_9 (by decide) (by simp only [Int32.lt_iff_toInt_lt, Int32.le_iff_toInt_le, ← Int32.toInt_inj, Int32.reduceToInt, Int32.zero_add] at hy1 hy2 ⊢; omega) ?_
  exact hT _ _ _ _ _ _ 123 125 exn dX12_run_12 dX12_run_15 dX12_run_16 dX12_run_19 (by decide +kernel) (by decide +kernel) zw1740 zw27 atg_125 atb_125 ato_125 (by decide) (Nat.le_of_ble_eq_true rfl) (Nat.le_of_ble_eq_true rfl) (Nat.le_of_ble_eq_true rfl)
set_option maxRecDepth 100000 in
theorem prun1_m (l : Launch) (G : zG) (h0 : Nat) (x1 : Int32) (g2 : Nat) (g3 : Nat) (g4 : Nat) (g5 : Nat) (g6 : Nat) (g7 : Nat) (g8 : Nat) (g9 : Nat) (g10 : Nat) (g11 : Nat) (g12 : Nat) (g13 : Nat) (g14 : Nat) (g15 : Nat) (g16 : Nat) (g17 : Nat) (g18 : Nat) (g19 : Nat) (g20 : Nat) (g21 : Nat) (g22 : Nat) (g23 : Nat) (g24 : Nat) (g25 : Nat) (g26 : Nat) (g27 : Nat) (g28 : Nat) (g29 : Nat) (g30 : Nat) (g31 : Nat) (g32 : Nat) (g33 : Nat) (g34 : Nat) (g35 : Nat) (g36 : Nat) (g37 : Nat) (g38 : Nat) (g39 : Nat) (g40 : Nat) (g41 : Nat) (g42 : Nat) (g43 : Nat) (g44 : Nat) (g45 : Nat) (g46 : Nat) (g47 : Nat) (g48 : Nat) (g49 : Nat) (g50 : Nat) (g51 : Nat) (g52 : Nat) (g53 : Nat) (g54 : Nat) (g55 : Nat) (g56 : Nat) (g57 : Nat) (g58 : Nat) (g59 : Nat) (g60 : Nat) (g61 : Nat) (g62 : Nat) (g63 : Nat) (g64 : Nat) (g65 : Nat) (g66 : Nat) (g67 : Nat) (g68 : Nat) (g69 : Nat) (g70 : Nat) (g71 : Nat) (g72 : Nat) (g73 : Nat) (g74 : Nat) (hy1 : ¬ x1 < 1) (hy2 : 12000 < x1) : zMi l G yX14_run cX14_run 2 .int 0 0 0 0 [.ref h0, .int x1] [(h0, .inr (14, [.int 0, .ref g2, .ref g3, .int 0, .ref g4, .ref g5, .ref g6, .null, .null, .null, .int 0, .int 0, .int 0, .int 0, .int 0, .null, .int 0, .int 0, .int 0, .int 0, .ref g7, .int 0, .int 0, .int 0, .int 0, .int 0, .ref g8, .ref g9, .int 0, .int 0, .int 0, .int 0, .int (-1), .int (-1), .ref g10, .ref g11, .ref g12, .ref g13, .int 0, .int 0, .ref g14, .int 0, .int 0, .int 0, .int 0, .int 0, .ref g15, .ref g16, .ref g17, .ref g18, .ref g19, .ref g20, .ref g21, .ref g22, .ref g23, .ref g24, .ref g25, .ref g26, .ref g27, .ref g28, .int 0, .ref g29, .ref g30, .ref g31, .ref g32, .int 0, .int 0, .int 0, .int 0, .ref g33, .int 0, .int 0, .int 0, .int 0, .int 0, .ref g34, .ref g35, .ref g36, .ref g37, .ref g38, .int 0, .int 0, .int 0, .int 0, .ref g39, .ref g40, .ref g41, .ref g42, .int 0, .ref g43, .ref g44, .ref g45, .int 0, .ref g46, .int 0, .ref g47, .int 0, .int 0, .int 0, .int 0, .int 0, .int 0, .ref g48, .int 0, .int 0, .ref g49, .ref g50, .ref g51, .ref g52, .ref g53, .ref g54, .ref g55, .int 0, .int 0, .ref g56, .ref g57, .ref g58, .ref g59, .int 0, .int 0, .ref g60, .ref g61, .int 0, .int 0, .ref g62, .ref g63, .ref g64, .ref g65, .ref g66, .ref g67, .ref g68, .ref g69, .ref g70, .ref g71, .ref g72, .int 0, .ref g73, .int 0, .ref g74]))] (fun r w => r = 0 ∧ w = [(h0, .inr (14, [.int 1, .ref g2, .ref g3, .int 0, .ref g4, .ref g5, .ref g6, .null, .null, .null, .int 0, .int 0, .int 0, .int 0, .int 0, .null, .int 0, .int 0, .int 0, .int 0, .ref g7, .int 0, .int 0, .int 0, .int 0, .int 0, .ref g8, .ref g9, .int 0, .int 0, .int 0, .int 0, .int (-1), .int (-1), .ref g10, .ref g11, .ref g12, .ref g13, .int 0, .int 0, .ref g14, .int 0, .int 0, .int 0, .int 0, .int 0, .ref g15, .ref g16, .ref g17, .ref g18, .ref g19, .ref g20, .ref g21, .ref g22, .ref g23, .ref g24, .ref g25, .ref g26, .ref g27, .ref g28, .int 0, .ref g29, .ref g30, .ref g31, .ref g32, .int 0, .int 0, .int 0, .int 0, .ref g33, .int 0, .int 0, .int 0, .int 0, .int 0, .ref g34, .ref g35, .ref g36, .ref g37, .ref g38, .int 0, .int 0, .int 0, .int 0, .ref g39, .ref g40, .ref g41, .ref g42, .int 0, .ref g43, .ref g44, .ref g45, .int 0, .ref g46, .int 0, .ref g47, .int 0, .int 0, .int 0, .int 0, .int 0, .int 0, .ref g48, .int 0, .int 0, .ref g49, .ref g50, .ref g51, .ref g52, .ref g53, .ref g54, .ref g55, .int 0, .int 0, .ref g56, .ref g57, .ref g58, .ref g59, .int 0, .int 0, .ref g60, .ref g61, .int 0, .int 0, .ref g62, .ref g63, .ref g64, .ref g65, .ref g66, .ref g67, .ref g68, .ref g69, .ref g70, .ref g71, .ref g72, .int 0, .ref g73, .int 0, .ref g74]))]) := by
  refine zMi.intro (by decide) (Nat.le_of_ble_eq_true rfl) (fun X hC hR => ?_)
  refine z_aload_n hC (pc := 0) 0 dX14_run_0 rfl rfl ?_
  refine z_iconst hC (pc := 1) (v := 0) dX14_run_1 (by decide) ?_
  refine z_put hC (pc := 2) zf14 0 0 [(h0, .inr (14, [.int 0, .ref g2, .ref g3, .int 0, .ref g4, .ref g5, .ref g6, .null, .null, .null, .int 0, .int 0, .int 0, .int 0, .int 0, .null, .int 0, .int 0, .int 0, .int 0, .ref g7, .int 0, .int 0, .int 0, .int 0, .int 0, .ref g8, .ref g9, .int 0, .int 0, .int 0, .int 0, .int (-1), .int (-1), .ref g10, .ref g11, .ref g12, .ref g13, .int 0, .int 0, .ref g14, .int 0, .int 0, .int 0, .int 0, .int 0, .ref g15, .ref g16, .ref g17, .ref g18, .ref g19, .ref g20, .ref g21, .ref g22, .ref g23, .ref g24, .ref g25, .ref g26, .ref g27, .ref g28, .int 0, .ref g29, .ref g30, .ref g31, .ref g32, .int 0, .int 0, .int 0, .int 0, .ref g33, .int 0, .int 0, .int 0, .int 0, .int 0, .ref g34, .ref g35, .ref g36, .ref g37, .ref g38, .int 0, .int 0, .int 0, .int 0, .ref g39, .ref g40, .ref g41, .ref g42, .int 0, .ref g43, .ref g44, .ref g45, .int 0, .ref g46, .int 0, .ref g47, .int 0, .int 0, .int 0, .int 0, .int 0, .int 0, .ref g48, .int 0, .int 0, .ref g49, .ref g50, .ref g51, .ref g52, .ref g53, .ref g54, .ref g55, .int 0, .int 0, .ref g56, .ref g57, .ref g58, .ref g59, .int 0, .int 0, .ref g60, .ref g61, .int 0, .int 0, .ref g62, .ref g63, .ref g64, .ref g65, .ref g66, .ref g67, .ref g68, .ref g69, .ref g70, .ref g71, .ref g72, .int 0, .ref g73, .int 0, .ref g74]))] dX14_run_2 zw2468 rfl rfl rfl rfl rfl (kk := ?_)
  refine z_iload_n hC (pc := 5) 1 dX14_run_5 rfl rfl ?_
  refine z_iconst hC (pc := 6) (v := 1) dX14_run_6 (by decide) ?_
  refine z_icmp_ltF hC (pc := 7) 17 dX14_run_7 (by decide) hy1 ?_
  refine z_iload_n hC (pc := 10) 1 dX14_run_10 rfl rfl ?_
  refine z_sipush hC (pc := 11) (v := 12000) dX14_run_11 (by decide) ?_
  refine z_icmp_leF hC (pc := 14) 25 dX14_run_14 (by decide) (by simp only [Int32.lt_iff_toInt_lt, Int32.le_iff_toInt_le, ← Int32.toInt_inj, Int32.reduceToInt, Int32.zero_add] at hy1 hy2 ⊢; omega) ?_
  refine z_aload_n hC (pc := 17) 0 dX14_run_17 rfl rfl ?_
  refine z_iconst hC (pc := 18) (v := 1) dX14_run_18 (by decide) ?_
  refine z_put hC (pc := 19) zf14 0 0 [(h0, .inr (14, [.int 1, .ref g2, .ref g3, .int 0, .ref g4, .ref g5, .ref g6, .null, .null, .null, .int 0, .int 0, .int 0, .int 0, .int 0, .null, .int 0, .int 0, .int 0, .int 0, .ref g7, .int 0, .int 0, .int 0, .int 0, .int 0, .ref g8, .ref g9, .int 0, .int 0, .int 0, .int 0, .int (-1), .int (-1), .ref g10, .ref g11, .ref g12, .ref g13, .int 0, .int 0, .ref g14, .int 0, .int 0, .int 0, .int 0, .int 0, .ref g15, .ref g16, .ref g17, .ref g18, .ref g19, .ref g20, .ref g21, .ref g22, .ref g23, .ref g24, .ref g25, .ref g26, .ref g27, .ref g28, .int 0, .ref g29, .ref g30, .ref g31, .ref g32, .int 0, .int 0, .int 0, .int 0, .ref g33, .int 0, .int 0, .int 0, .int 0, .int 0, .ref g34, .ref g35, .ref g36, .ref g37, .ref g38, .int 0, .int 0, .int 0, .int 0, .ref g39, .ref g40, .ref g41, .ref g42, .int 0, .ref g43, .ref g44, .ref g45, .int 0, .ref g46, .int 0, .ref g47, .int 0, .int 0, .int 0, .int 0, .int 0, .int 0, .ref g48, .int 0, .int 0, .ref g49, .ref g50, .ref g51, .ref g52, .ref g53, .ref g54, .ref g55, .int 0, .int 0, .ref g56, .ref g57, .ref g58, .ref g59, .int 0, .int 0, .ref g60, .ref g61, .int 0, .int 0, .ref g62, .ref g63, .ref g64, .ref g65, .ref g66, .ref g67, .ref g68, .ref g69, .ref g70, .ref g71, .ref g72, .int 0, .ref g73, .int 0, .ref g74]))] dX14_run_19 zw2468 rfl rfl rfl rfl rfl (kk := ?_)
  refine z_goto hC (pc := 22) 37 dX14_run_22 (by decide) ?_
  refine z_aload_n hC (pc := 37) 0 dX14_run_37 rfl rfl ?_
  refine z_get hC (pc := 38) zf14 0 0 dX14_run_38 zw2468 rfl rfl (kk := ?_)
  refine z_if_eqF hC (pc := 41) 46 dX14_run_41 (by decide) (by decide) ?_
  refine z_iconst hC (pc := 44) (v := 0) dX14_run_44 (by decide) ?_
  exact hR _ _ _ _ _ _ dX14_run_45 rfl (Nat.le_of_ble_eq_true rfl) (Nat.le_of_ble_eq_true rfl) ⟨rfl, rfl⟩
set_option maxRecDepth 100000 in
theorem prun2_c (l : Launch) (G : zG) (hst : l.stackTraces = false) (h0 : Nat) (x1 : Int32) (g2 : Nat) (g3 : Nat) (g4 : Nat) (g5 : Nat) (g6 : Nat) (g7 : Nat) (g8 : Nat) (g9 : Nat) (g10 : Nat) (g11 : Nat) (g12 : Nat) (hy1 : ¬ x1 < 1) (hy2 : ¬ 12000 < x1) : zMxi l G yX12_run cX12_run 3 .int "java/lang/IllegalStateException" 6 81 1 6 [.ref h0, .int x1] [(h0, .inr (12, [.ref g2, .ref g3, .int 0, .ref g4, .ref g5, .ref g6, .ref g7, .ref g8, .ref g9, .ref g10, .ref g11, .ref g12, .int 0, .int 0, .int (-1), .int (-1), .int 0, .int 0, .int 0]))] := by
  refine zMxi.intro hst (by decide) (Nat.le_of_ble_eq_true rfl) (fun X hC hT => ?_)
  refine z_iload_n hC (pc := 0) 1 dX12_run_0 rfl rfl ?_
  refine z_iconst hC (pc := 1) (v := 1) dX12_run_1 (by decide) ?_
  refine z_icmp_ltF hC (pc := 2) 12 dX12_run_2 (by decide) hy1 ?_
  refine z_iload_n hC (pc := 5) 1 dX12_run_5 rfl rfl ?_
  refine z_sipush hC (pc := 6) (v := 12000) dX12_run_6 (by decide) ?_
  refine z_icmp_leT hC (pc := 9) 20 dX12_run_9 (by decide) (by simp only [Int32.lt_iff_toInt_lt, Int32.le_iff_toInt_le, ← Int32.toInt_inj, Int32.reduceToInt, Int32.zero_add] at hy1 hy2 ⊢; omega) ?_
  refine z_aload_n hC (pc := 20) 0 dX12_run_20 rfl rfl ?_
  refine z_get hC (pc := 21) zf12 0 17 dX12_run_21 zw725 rfl rfl (kk := ?_)
  refine z_iconst hC (pc := 24) (v := 1) dX12_run_24 (by decide) ?_
  refine z_icmp_eqF hC (pc := 25) 36 dX12_run_25 (by decide) (by decide) ?_
  exact hT _ _ _ _ _ _ 154 196 exn dX12_run_28 dX12_run_31 dX12_run_32 dX12_run_35 (by decide +kernel) (by decide +kernel) zw936 zw20 atg_196 atb_196 ato_196 (by decide) (Nat.le_of_ble_eq_true rfl) (Nat.le_of_ble_eq_true rfl) (Nat.le_of_ble_eq_true rfl)
set_option maxRecDepth 100000 in
theorem prun2_m (l : Launch) (G : zG) (h0 : Nat) (x1 : Int32) (g2 : Nat) (g3 : Nat) (g4 : Nat) (g5 : Nat) (g6 : Nat) (g7 : Nat) (g8 : Nat) (g9 : Nat) (g10 : Nat) (g11 : Nat) (g12 : Nat) (g13 : Nat) (g14 : Nat) (g15 : Nat) (g16 : Nat) (g17 : Nat) (g18 : Nat) (g19 : Nat) (g20 : Nat) (g21 : Nat) (g22 : Nat) (g23 : Nat) (g24 : Nat) (g25 : Nat) (g26 : Nat) (g27 : Nat) (g28 : Nat) (g29 : Nat) (g30 : Nat) (g31 : Nat) (g32 : Nat) (g33 : Nat) (g34 : Nat) (g35 : Nat) (g36 : Nat) (g37 : Nat) (g38 : Nat) (g39 : Nat) (g40 : Nat) (g41 : Nat) (g42 : Nat) (g43 : Nat) (g44 : Nat) (g45 : Nat) (g46 : Nat) (g47 : Nat) (g48 : Nat) (g49 : Nat) (g50 : Nat) (g51 : Nat) (g52 : Nat) (g53 : Nat) (g54 : Nat) (g55 : Nat) (g56 : Nat) (g57 : Nat) (g58 : Nat) (g59 : Nat) (g60 : Nat) (g61 : Nat) (g62 : Nat) (g63 : Nat) (g64 : Nat) (g65 : Nat) (g66 : Nat) (g67 : Nat) (g68 : Nat) (g69 : Nat) (g70 : Nat) (g71 : Nat) (g72 : Nat) (g73 : Nat) (g74 : Nat) (hy1 : ¬ x1 < 1) (hy2 : ¬ 12000 < x1) : zMi l G yX14_run cX14_run 2 .int 1 20 0 0 [.ref h0, .int x1] [(h0, .inr (14, [.int 0, .ref g2, .ref g3, .int 0, .ref g4, .ref g5, .ref g6, .null, .null, .null, .int 0, .int 0, .int 0, .int 0, .int 0, .null, .int 0, .int 0, .int 0, .int 0, .ref g7, .int 0, .int 0, .int 0, .int 0, .int 0, .ref g8, .ref g9, .int 0, .int 0, .int 0, .int 0, .int (-1), .int (-1), .ref g10, .ref g11, .ref g12, .ref g13, .int 0, .int 0, .ref g14, .int 0, .int 0, .int 0, .int 0, .int 0, .ref g15, .ref g16, .ref g17, .ref g18, .ref g19, .ref g20, .ref g21, .ref g22, .ref g23, .ref g24, .ref g25, .ref g26, .ref g27, .ref g28, .int 0, .ref g29, .ref g30, .ref g31, .ref g32, .int 0, .int 0, .int 0, .int 0, .ref g33, .int 0, .int 0, .int 0, .int 0, .int 0, .ref g34, .ref g35, .ref g36, .ref g37, .ref g38, .int 0, .int 0, .int 0, .int 0, .ref g39, .ref g40, .ref g41, .ref g42, .int 0, .ref g43, .ref g44, .ref g45, .int 0, .ref g46, .int 0, .ref g47, .int 0, .int 0, .int 0, .int 0, .int 0, .int 0, .ref g48, .int 0, .int 0, .ref g49, .ref g50, .ref g51, .ref g52, .ref g53, .ref g54, .ref g55, .int 0, .int 0, .ref g56, .ref g57, .ref g58, .ref g59, .int 0, .int 0, .ref g60, .ref g61, .int 0, .int 0, .ref g62, .ref g63, .ref g64, .ref g65, .ref g66, .ref g67, .ref g68, .ref g69, .ref g70, .ref g71, .ref g72, .int 0, .ref g73, .int 0, .ref g74]))] (fun r w => r = 0 ∧ w = [(h0, .inr (14, [.int 2, .ref g2, .ref g3, .int 0, .ref g4, .ref g5, .ref g6, .null, .null, .null, .int 0, .int 0, .int 0, .int 0, .int 0, .null, .int 0, .int 0, .int 0, .int 0, .ref g7, .int 0, .int 0, .int 0, .int 0, .int 0, .ref g8, .ref g9, .int 0, .int 0, .int 0, .int 0, .int (-1), .int (-1), .ref g10, .ref g11, .ref g12, .ref g13, .int 0, .int 0, .ref g14, .int 0, .int 0, .int 0, .int 0, .int 0, .ref g15, .ref g16, .ref g17, .ref g18, .ref g19, .ref g20, .ref g21, .ref g22, .ref g23, .ref g24, .ref g25, .ref g26, .ref g27, .ref g28, .int 0, .ref g29, .ref g30, .ref g31, .ref g32, .int 0, .int 0, .int 0, .int 0, .ref g33, .int 0, .int 0, .int 0, .int 0, .int 0, .ref g34, .ref g35, .ref g36, .ref g37, .ref g38, .int 0, .int 0, .int 0, .int 0, .ref g39, .ref g40, .ref g41, .ref g42, .int 0, .ref g43, .ref g44, .ref g45, .int 0, .ref g46, .int 0, .ref g47, .int 0, .int 0, .int 0, .int 0, .int 0, .int 0, .ref g48, .int 0, .int 0, .ref g49, .ref g50, .ref g51, .ref g52, .ref g53, .ref g54, .ref g55, .int 0, .int 0, .ref g56, .ref g57, .ref g58, .ref g59, .int 0, .int 0, .ref g60, .ref g61, .int 0, .int 0, .ref g62, .ref g63, .ref g64, .ref g65, .ref g66, .ref g67, .ref g68, .ref g69, .ref g70, .ref g71, .ref g72, .int 0, .ref g73, .int 0, .ref g74]))]) := by
  refine zMi.intro (by decide) (Nat.le_of_ble_eq_true rfl) (fun X hC hR => ?_)
  refine z_aload_n hC (pc := 0) 0 dX14_run_0 rfl rfl ?_
  refine z_iconst hC (pc := 1) (v := 0) dX14_run_1 (by decide) ?_
  refine z_put hC (pc := 2) zf14 0 0 [(h0, .inr (14, [.int 0, .ref g2, .ref g3, .int 0, .ref g4, .ref g5, .ref g6, .null, .null, .null, .int 0, .int 0, .int 0, .int 0, .int 0, .null, .int 0, .int 0, .int 0, .int 0, .ref g7, .int 0, .int 0, .int 0, .int 0, .int 0, .ref g8, .ref g9, .int 0, .int 0, .int 0, .int 0, .int (-1), .int (-1), .ref g10, .ref g11, .ref g12, .ref g13, .int 0, .int 0, .ref g14, .int 0, .int 0, .int 0, .int 0, .int 0, .ref g15, .ref g16, .ref g17, .ref g18, .ref g19, .ref g20, .ref g21, .ref g22, .ref g23, .ref g24, .ref g25, .ref g26, .ref g27, .ref g28, .int 0, .ref g29, .ref g30, .ref g31, .ref g32, .int 0, .int 0, .int 0, .int 0, .ref g33, .int 0, .int 0, .int 0, .int 0, .int 0, .ref g34, .ref g35, .ref g36, .ref g37, .ref g38, .int 0, .int 0, .int 0, .int 0, .ref g39, .ref g40, .ref g41, .ref g42, .int 0, .ref g43, .ref g44, .ref g45, .int 0, .ref g46, .int 0, .ref g47, .int 0, .int 0, .int 0, .int 0, .int 0, .int 0, .ref g48, .int 0, .int 0, .ref g49, .ref g50, .ref g51, .ref g52, .ref g53, .ref g54, .ref g55, .int 0, .int 0, .ref g56, .ref g57, .ref g58, .ref g59, .int 0, .int 0, .ref g60, .ref g61, .int 0, .int 0, .ref g62, .ref g63, .ref g64, .ref g65, .ref g66, .ref g67, .ref g68, .ref g69, .ref g70, .ref g71, .ref g72, .int 0, .ref g73, .int 0, .ref g74]))] dX14_run_2 zw2468 rfl rfl rfl rfl rfl (kk := ?_)
  refine z_iload_n hC (pc := 5) 1 dX14_run_5 rfl rfl ?_
  refine z_iconst hC (pc := 6) (v := 1) dX14_run_6 (by decide) ?_
  refine z_icmp_ltF hC (pc := 7) 17 dX14_run_7 (by decide) hy1 ?_
  refine z_iload_n hC (pc := 10) 1 dX14_run_10 rfl rfl ?_
  refine z_sipush hC (pc := 11) (v := 12000) dX14_run_11 (by decide) ?_
  refine z_icmp_leT hC (pc := 14) 25 dX14_run_14 (by decide) (by simp only [Int32.lt_iff_toInt_lt, Int32.le_iff_toInt_le, ← Int32.toInt_inj, Int32.reduceToInt, Int32.zero_add] at hy1 hy2 ⊢; omega) ?_
  refine z_aload_n hC (pc := 25) 0 dX14_run_25 rfl rfl ?_
  refine z_callVi hC (pc := 26) (k := 0) (n := 0) (As := []) (wr := []) (kX14_isMade_43 l G h0 g2 g3 g4 g5 g6 g7 g8 g9 g10 g11 g12 g13 g14 g15 g16 g17 g18 g19 g20 g21 g22 g23 g24 g25 g26 g27 g28 g29 g30 g31 g32 g33 g34 g35 g36 g37 g38 g39 g40 g41 g42 g43 g44 g45 g46 g47 g48 g49 g50 g51 g52 g53 g54 g55 g56 g57 g58 g59 g60 g61 g62 g63 g64 g65 g66 g67 g68 g69 g70 g71 g72 g73 g74) dmX14_isMade zf14 0 rfl [0] [] rfl rfl rfl dX14_run_26 zw2893 rfl rfl (Nat.le_of_ble_eq_true rfl) (Nat.le_of_ble_eq_true rfl) (Nat.le_of_ble_eq_true rfl) (Nat.le_of_ble_eq_true rfl) (Nat.le_of_ble_eq_true rfl) (fun r w hp => ?_)
  obtain ⟨rfl, rfl⟩ := hp
  refine z_if_neF hC (pc := 29) 37 dX14_run_29 (by decide) (by decide) ?_
  refine z_aload_n hC (pc := 32) 0 dX14_run_32 rfl rfl ?_
  refine z_iconst hC (pc := 33) (v := 2) dX14_run_33 (by decide) ?_
  refine z_put hC (pc := 34) zf14 0 0 [(h0, .inr (14, [.int 2, .ref g2, .ref g3, .int 0, .ref g4, .ref g5, .ref g6, .null, .null, .null, .int 0, .int 0, .int 0, .int 0, .int 0, .null, .int 0, .int 0, .int 0, .int 0, .ref g7, .int 0, .int 0, .int 0, .int 0, .int 0, .ref g8, .ref g9, .int 0, .int 0, .int 0, .int 0, .int (-1), .int (-1), .ref g10, .ref g11, .ref g12, .ref g13, .int 0, .int 0, .ref g14, .int 0, .int 0, .int 0, .int 0, .int 0, .ref g15, .ref g16, .ref g17, .ref g18, .ref g19, .ref g20, .ref g21, .ref g22, .ref g23, .ref g24, .ref g25, .ref g26, .ref g27, .ref g28, .int 0, .ref g29, .ref g30, .ref g31, .ref g32, .int 0, .int 0, .int 0, .int 0, .ref g33, .int 0, .int 0, .int 0, .int 0, .int 0, .ref g34, .ref g35, .ref g36, .ref g37, .ref g38, .int 0, .int 0, .int 0, .int 0, .ref g39, .ref g40, .ref g41, .ref g42, .int 0, .ref g43, .ref g44, .ref g45, .int 0, .ref g46, .int 0, .ref g47, .int 0, .int 0, .int 0, .int 0, .int 0, .int 0, .ref g48, .int 0, .int 0, .ref g49, .ref g50, .ref g51, .ref g52, .ref g53, .ref g54, .ref g55, .int 0, .int 0, .ref g56, .ref g57, .ref g58, .ref g59, .int 0, .int 0, .ref g60, .ref g61, .int 0, .int 0, .ref g62, .ref g63, .ref g64, .ref g65, .ref g66, .ref g67, .ref g68, .ref g69, .ref g70, .ref g71, .ref g72, .int 0, .ref g73, .int 0, .ref g74]))] dX14_run_34 zw2468 rfl rfl rfl rfl rfl (kk := ?_)
  refine z_aload_n hC (pc := 37) 0 dX14_run_37 rfl rfl ?_
  refine z_get hC (pc := 38) zf14 0 0 dX14_run_38 zw2468 rfl rfl (kk := ?_)
  refine z_if_eqF hC (pc := 41) 46 dX14_run_41 (by decide) (by decide) ?_
  refine z_iconst hC (pc := 44) (v := 0) dX14_run_44 (by decide) ?_
  exact hR _ _ _ _ _ _ dX14_run_45 rfl (Nat.le_of_ble_eq_true rfl) (Nat.le_of_ble_eq_true rfl) ⟨rfl, rfl⟩
set_option maxRecDepth 100000 in
theorem pload0_c (l : Launch) (G : zG) (hst : l.stackTraces = false) (h0 : Nat) (x1 : Int32) (g2 : Nat) (g3 : Nat) (g4 : Nat) (g5 : Nat) (g6 : Nat) (g7 : Nat) (g8 : Nat) (g9 : Nat) (g10 : Nat) (g11 : Nat) (g12 : Nat) (hy1 : x1 < 0) : zMxi l G yX12_load cX12_load 3 .int "java/lang/IllegalArgumentException" 6 81 1 6 [.ref h0, .int x1] [(h0, .inr (12, [.ref g2, .ref g3, .int 0, .ref g4, .ref g5, .ref g6, .ref g7, .ref g8, .ref g9, .ref g10, .ref g11, .ref g12, .int 0, .int 0, .int (-1), .int (-1), .int 0, .int 0, .int 0]))] := by
  refine zMxi.intro hst (by decide) (Nat.le_of_ble_eq_true rfl) (fun X hC hT => ?_)
  refine z_aload_n hC (pc := 0) 0 dX12_load_0 rfl rfl ?_
  refine z_iconst hC (pc := 1) (v := 0) dX12_load_1 (by decide) ?_
  refine z_put hC (pc := 2) zf12 0 13 [(h0, .inr (12, [.ref g2, .ref g3, .int 0, .ref g4, .ref g5, .ref g6, .ref g7, .ref g8, .ref g9, .ref g10, .ref g11, .ref g12, .int 0, .int 0, .int (-1), .int (-1), .int 0, .int 0, .int 0]))] dX12_load_2 zw721 rfl rfl rfl rfl rfl (kk := ?_)
  refine z_aload_n hC (pc := 5) 0 dX12_load_5 rfl rfl ?_
  refine z_iconst hC (pc := 6) (v := (-1)) dX12_load_6 (by decide) ?_
  refine z_put hC (pc := 7) zf12 0 14 [(h0, .inr (12, [.ref g2, .ref g3, .int 0, .ref g4, .ref g5, .ref g6, .ref g7, .ref g8, .ref g9, .ref g10, .ref g11, .ref g12, .int 0, .int 0, .int (-1), .int (-1), .int 0, .int 0, .int 0]))] dX12_load_7 zw722 rfl rfl rfl rfl rfl (kk := ?_)
  refine z_aload_n hC (pc := 10) 0 dX12_load_10 rfl rfl ?_
  refine z_iconst hC (pc := 11) (v := (-1)) dX12_load_11 (by decide) ?_
  refine z_put hC (pc := 12) zf12 0 15 [(h0, .inr (12, [.ref g2, .ref g3, .int 0, .ref g4, .ref g5, .ref g6, .ref g7, .ref g8, .ref g9, .ref g10, .ref g11, .ref g12, .int 0, .int 0, .int (-1), .int (-1), .int 0, .int 0, .int 0]))] dX12_load_12 zw723 rfl rfl rfl rfl rfl (kk := ?_)
  refine z_iload_n hC (pc := 15) 1 dX12_load_15 rfl rfl ?_
  refine z_if_ltT hC (pc := 16) 33 dX12_load_16 (by decide) hy1 ?_
  exact hT _ _ _ _ _ _ 123 125 exn dX12_load_33 dX12_load_36 dX12_load_37 dX12_load_40 (by decide +kernel) (by decide +kernel) zw1740 zw27 atg_125 atb_125 ato_125 (by decide) (Nat.le_of_ble_eq_true rfl) (Nat.le_of_ble_eq_true rfl) (Nat.le_of_ble_eq_true rfl)
set_option maxRecDepth 100000 in
theorem pload0_m (l : Launch) (G : zG) (h0 : Nat) (x1 : Int32) (g2 : Nat) (g3 : Nat) (g4 : Nat) (g5 : Nat) (g6 : Nat) (g7 : Nat) (g8 : Nat) (g9 : Nat) (g10 : Nat) (g11 : Nat) (g12 : Nat) (g13 : Nat) (g14 : Nat) (g15 : Nat) (g16 : Nat) (g17 : Nat) (g18 : Nat) (g19 : Nat) (g20 : Nat) (g21 : Nat) (g22 : Nat) (g23 : Nat) (g24 : Nat) (g25 : Nat) (g26 : Nat) (g27 : Nat) (g28 : Nat) (g29 : Nat) (g30 : Nat) (g31 : Nat) (g32 : Nat) (g33 : Nat) (g34 : Nat) (g35 : Nat) (g36 : Nat) (g37 : Nat) (g38 : Nat) (g39 : Nat) (g40 : Nat) (g41 : Nat) (g42 : Nat) (g43 : Nat) (g44 : Nat) (g45 : Nat) (g46 : Nat) (g47 : Nat) (g48 : Nat) (g49 : Nat) (g50 : Nat) (g51 : Nat) (g52 : Nat) (g53 : Nat) (g54 : Nat) (g55 : Nat) (g56 : Nat) (g57 : Nat) (g58 : Nat) (g59 : Nat) (g60 : Nat) (g61 : Nat) (g62 : Nat) (g63 : Nat) (g64 : Nat) (g65 : Nat) (g66 : Nat) (g67 : Nat) (g68 : Nat) (g69 : Nat) (g70 : Nat) (g71 : Nat) (g72 : Nat) (g73 : Nat) (g74 : Nat) (hy1 : x1 < 0) : zMi l G yX14_load cX14_load 5 .int 0 0 0 0 [.ref h0, .int x1] [(h0, .inr (14, [.int 0, .ref g2, .ref g3, .int 0, .ref g4, .ref g5, .ref g6, .null, .null, .null, .int 0, .int 0, .int 0, .int 0, .int 0, .null, .int 0, .int 0, .int 0, .int 0, .ref g7, .int 0, .int 0, .int 0, .int 0, .int 0, .ref g8, .ref g9, .int 0, .int 0, .int 0, .int 0, .int (-1), .int (-1), .ref g10, .ref g11, .ref g12, .ref g13, .int 0, .int 0, .ref g14, .int 0, .int 0, .int 0, .int 0, .int 0, .ref g15, .ref g16, .ref g17, .ref g18, .ref g19, .ref g20, .ref g21, .ref g22, .ref g23, .ref g24, .ref g25, .ref g26, .ref g27, .ref g28, .int 0, .ref g29, .ref g30, .ref g31, .ref g32, .int 0, .int 0, .int 0, .int 0, .ref g33, .int 0, .int 0, .int 0, .int 0, .int 0, .ref g34, .ref g35, .ref g36, .ref g37, .ref g38, .int 0, .int 0, .int 0, .int 0, .ref g39, .ref g40, .ref g41, .ref g42, .int 0, .ref g43, .ref g44, .ref g45, .int 0, .ref g46, .int 0, .ref g47, .int 0, .int 0, .int 0, .int 0, .int 0, .int 0, .ref g48, .int 0, .int 0, .ref g49, .ref g50, .ref g51, .ref g52, .ref g53, .ref g54, .ref g55, .int 0, .int 0, .ref g56, .ref g57, .ref g58, .ref g59, .int 0, .int 0, .ref g60, .ref g61, .int 0, .int 0, .ref g62, .ref g63, .ref g64, .ref g65, .ref g66, .ref g67, .ref g68, .ref g69, .ref g70, .ref g71, .ref g72, .int 0, .ref g73, .int 0, .ref g74]))] (fun r w => r = 0 ∧ w = [(h0, .inr (14, [.int 1, .ref g2, .ref g3, .int 0, .ref g4, .ref g5, .ref g6, .null, .null, .null, .int 0, .int 0, .int 0, .int 0, .int 0, .null, .int 0, .int 0, .int 0, .int 0, .ref g7, .int 0, .int 0, .int 0, .int 0, .int 0, .ref g8, .ref g9, .int 0, .int 0, .int 0, .int 0, .int (-1), .int (-1), .ref g10, .ref g11, .ref g12, .ref g13, .int 0, .int 0, .ref g14, .int 0, .int 0, .int 0, .int 0, .int 0, .ref g15, .ref g16, .ref g17, .ref g18, .ref g19, .ref g20, .ref g21, .ref g22, .ref g23, .ref g24, .ref g25, .ref g26, .ref g27, .ref g28, .int 0, .ref g29, .ref g30, .ref g31, .ref g32, .int 0, .int 0, .int 0, .int 0, .ref g33, .int 0, .int 0, .int 0, .int 0, .int 0, .ref g34, .ref g35, .ref g36, .ref g37, .ref g38, .int 0, .int 0, .int 0, .int 0, .ref g39, .ref g40, .ref g41, .ref g42, .int 0, .ref g43, .ref g44, .ref g45, .int 0, .ref g46, .int 0, .ref g47, .int 0, .int 0, .int 0, .int 0, .int 0, .int 0, .ref g48, .int 0, .int 0, .ref g49, .ref g50, .ref g51, .ref g52, .ref g53, .ref g54, .ref g55, .int 0, .int 0, .ref g56, .ref g57, .ref g58, .ref g59, .int 0, .int 0, .ref g60, .ref g61, .int 0, .int 0, .ref g62, .ref g63, .ref g64, .ref g65, .ref g66, .ref g67, .ref g68, .ref g69, .ref g70, .ref g71, .ref g72, .int 0, .ref g73, .int 0, .ref g74]))]) := by
  refine zMi.intro (by decide) (Nat.le_of_ble_eq_true rfl) (fun X hC hR => ?_)
  refine z_aload_n hC (pc := 0) 0 dX14_load_0 rfl rfl ?_
  refine z_iconst hC (pc := 1) (v := 0) dX14_load_1 (by decide) ?_
  refine z_put hC (pc := 2) zf14 0 0 [(h0, .inr (14, [.int 0, .ref g2, .ref g3, .int 0, .ref g4, .ref g5, .ref g6, .null, .null, .null, .int 0, .int 0, .int 0, .int 0, .int 0, .null, .int 0, .int 0, .int 0, .int 0, .ref g7, .int 0, .int 0, .int 0, .int 0, .int 0, .ref g8, .ref g9, .int 0, .int 0, .int 0, .int 0, .int (-1), .int (-1), .ref g10, .ref g11, .ref g12, .ref g13, .int 0, .int 0, .ref g14, .int 0, .int 0, .int 0, .int 0, .int 0, .ref g15, .ref g16, .ref g17, .ref g18, .ref g19, .ref g20, .ref g21, .ref g22, .ref g23, .ref g24, .ref g25, .ref g26, .ref g27, .ref g28, .int 0, .ref g29, .ref g30, .ref g31, .ref g32, .int 0, .int 0, .int 0, .int 0, .ref g33, .int 0, .int 0, .int 0, .int 0, .int 0, .ref g34, .ref g35, .ref g36, .ref g37, .ref g38, .int 0, .int 0, .int 0, .int 0, .ref g39, .ref g40, .ref g41, .ref g42, .int 0, .ref g43, .ref g44, .ref g45, .int 0, .ref g46, .int 0, .ref g47, .int 0, .int 0, .int 0, .int 0, .int 0, .int 0, .ref g48, .int 0, .int 0, .ref g49, .ref g50, .ref g51, .ref g52, .ref g53, .ref g54, .ref g55, .int 0, .int 0, .ref g56, .ref g57, .ref g58, .ref g59, .int 0, .int 0, .ref g60, .ref g61, .int 0, .int 0, .ref g62, .ref g63, .ref g64, .ref g65, .ref g66, .ref g67, .ref g68, .ref g69, .ref g70, .ref g71, .ref g72, .int 0, .ref g73, .int 0, .ref g74]))] dX14_load_2 zw2468 rfl rfl rfl rfl rfl (kk := ?_)
  refine z_aload_n hC (pc := 5) 0 dX14_load_5 rfl rfl ?_
  refine z_iconst hC (pc := 6) (v := 0) dX14_load_6 (by decide) ?_
  refine z_put hC (pc := 7) zf14 0 10 [(h0, .inr (14, [.int 0, .ref g2, .ref g3, .int 0, .ref g4, .ref g5, .ref g6, .null, .null, .null, .int 0, .int 0, .int 0, .int 0, .int 0, .null, .int 0, .int 0, .int 0, .int 0, .ref g7, .int 0, .int 0, .int 0, .int 0, .int 0, .ref g8, .ref g9, .int 0, .int 0, .int 0, .int 0, .int (-1), .int (-1), .ref g10, .ref g11, .ref g12, .ref g13, .int 0, .int 0, .ref g14, .int 0, .int 0, .int 0, .int 0, .int 0, .ref g15, .ref g16, .ref g17, .ref g18, .ref g19, .ref g20, .ref g21, .ref g22, .ref g23, .ref g24, .ref g25, .ref g26, .ref g27, .ref g28, .int 0, .ref g29, .ref g30, .ref g31, .ref g32, .int 0, .int 0, .int 0, .int 0, .ref g33, .int 0, .int 0, .int 0, .int 0, .int 0, .ref g34, .ref g35, .ref g36, .ref g37, .ref g38, .int 0, .int 0, .int 0, .int 0, .ref g39, .ref g40, .ref g41, .ref g42, .int 0, .ref g43, .ref g44, .ref g45, .int 0, .ref g46, .int 0, .ref g47, .int 0, .int 0, .int 0, .int 0, .int 0, .int 0, .ref g48, .int 0, .int 0, .ref g49, .ref g50, .ref g51, .ref g52, .ref g53, .ref g54, .ref g55, .int 0, .int 0, .ref g56, .ref g57, .ref g58, .ref g59, .int 0, .int 0, .ref g60, .ref g61, .int 0, .int 0, .ref g62, .ref g63, .ref g64, .ref g65, .ref g66, .ref g67, .ref g68, .ref g69, .ref g70, .ref g71, .ref g72, .int 0, .ref g73, .int 0, .ref g74]))] dX14_load_7 zw2478 rfl rfl rfl rfl rfl (kk := ?_)
  refine z_iload_n hC (pc := 10) 1 dX14_load_10 rfl rfl ?_
  refine z_if_ltT hC (pc := 11) 20 dX14_load_11 (by decide) hy1 ?_
  refine z_aload_n hC (pc := 20) 0 dX14_load_20 rfl rfl ?_
  refine z_iconst hC (pc := 21) (v := 1) dX14_load_21 (by decide) ?_
  refine z_put hC (pc := 22) zf14 0 0 [(h0, .inr (14, [.int 1, .ref g2, .ref g3, .int 0, .ref g4, .ref g5, .ref g6, .null, .null, .null, .int 0, .int 0, .int 0, .int 0, .int 0, .null, .int 0, .int 0, .int 0, .int 0, .ref g7, .int 0, .int 0, .int 0, .int 0, .int 0, .ref g8, .ref g9, .int 0, .int 0, .int 0, .int 0, .int (-1), .int (-1), .ref g10, .ref g11, .ref g12, .ref g13, .int 0, .int 0, .ref g14, .int 0, .int 0, .int 0, .int 0, .int 0, .ref g15, .ref g16, .ref g17, .ref g18, .ref g19, .ref g20, .ref g21, .ref g22, .ref g23, .ref g24, .ref g25, .ref g26, .ref g27, .ref g28, .int 0, .ref g29, .ref g30, .ref g31, .ref g32, .int 0, .int 0, .int 0, .int 0, .ref g33, .int 0, .int 0, .int 0, .int 0, .int 0, .ref g34, .ref g35, .ref g36, .ref g37, .ref g38, .int 0, .int 0, .int 0, .int 0, .ref g39, .ref g40, .ref g41, .ref g42, .int 0, .ref g43, .ref g44, .ref g45, .int 0, .ref g46, .int 0, .ref g47, .int 0, .int 0, .int 0, .int 0, .int 0, .int 0, .ref g48, .int 0, .int 0, .ref g49, .ref g50, .ref g51, .ref g52, .ref g53, .ref g54, .ref g55, .int 0, .int 0, .ref g56, .ref g57, .ref g58, .ref g59, .int 0, .int 0, .ref g60, .ref g61, .int 0, .int 0, .ref g62, .ref g63, .ref g64, .ref g65, .ref g66, .ref g67, .ref g68, .ref g69, .ref g70, .ref g71, .ref g72, .int 0, .ref g73, .int 0, .ref g74]))] dX14_load_22 zw2468 rfl rfl rfl rfl rfl (kk := ?_)
  refine z_iconst hC (pc := 25) (v := 0) dX14_load_25 (by decide) ?_
  exact hR _ _ _ _ _ _ dX14_load_26 rfl (Nat.le_of_ble_eq_true rfl) (Nat.le_of_ble_eq_true rfl) ⟨rfl, rfl⟩
set_option maxRecDepth 100000 in
theorem pload1_c (l : Launch) (G : zG) (hst : l.stackTraces = false) (h0 : Nat) (x1 : Int32) (g2 : Nat) (g3 : Nat) (g4 : Nat) (g5 : Nat) (g6 : Nat) (g7 : Nat) (g8 : Nat) (g9 : Nat) (g10 : Nat) (g11 : Nat) (g12 : Nat) (hy1 : ¬ x1 < 0) (hy2 : 8 ≤ x1) : zMxi l G yX12_load cX12_load 3 .int "java/lang/IllegalArgumentException" 6 81 1 6 [.ref h0, .int x1] [(h0, .inr (12, [.ref g2, .ref g3, .int 0, .ref g4, .ref g5, .ref g6, .ref g7, .ref g8, .ref g9, .ref g10, .ref g11, .ref g12, .int 0, .int 0, .int (-1), .int (-1), .int 0, .int 0, .int 0]))] := by
  refine zMxi.intro hst (by decide) (Nat.le_of_ble_eq_true rfl) (fun X hC hT => ?_)
  refine z_aload_n hC (pc := 0) 0 dX12_load_0 rfl rfl ?_
  refine z_iconst hC (pc := 1) (v := 0) dX12_load_1 (by decide) ?_
  refine z_put hC (pc := 2) zf12 0 13 [(h0, .inr (12, [.ref g2, .ref g3, .int 0, .ref g4, .ref g5, .ref g6, .ref g7, .ref g8, .ref g9, .ref g10, .ref g11, .ref g12, .int 0, .int 0, .int (-1), .int (-1), .int 0, .int 0, .int 0]))] dX12_load_2 zw721 rfl rfl rfl rfl rfl (kk := ?_)
  refine z_aload_n hC (pc := 5) 0 dX12_load_5 rfl rfl ?_
  refine z_iconst hC (pc := 6) (v := (-1)) dX12_load_6 (by decide) ?_
  refine z_put hC (pc := 7) zf12 0 14 [(h0, .inr (12, [.ref g2, .ref g3, .int 0, .ref g4, .ref g5, .ref g6, .ref g7, .ref g8, .ref g9, .ref g10, .ref g11, .ref g12, .int 0, .int 0, .int (-1), .int (-1), .int 0, .int 0, .int 0]))] dX12_load_7 zw722 rfl rfl rfl rfl rfl (kk := ?_)
  refine z_aload_n hC (pc := 10) 0 dX12_load_10 rfl rfl ?_
  refine z_iconst hC (pc := 11) (v := (-1)) dX12_load_11 (by decide) ?_
  refine z_put hC (pc := 12) zf12 0 15 [(h0, .inr (12, [.ref g2, .ref g3, .int 0, .ref g4, .ref g5, .ref g6, .ref g7, .ref g8, .ref g9, .ref g10, .ref g11, .ref g12, .int 0, .int 0, .int (-1), .int (-1), .int 0, .int 0, .int 0]))] dX12_load_12 zw723 rfl rfl rfl rfl rfl (kk := ?_)
  refine z_iload_n hC (pc := 15) 1 dX12_load_15 rfl rfl ?_
  refine z_if_ltF hC (pc := 16) 33 dX12_load_16 (by decide) hy1 ?_
  refine z_iload_n hC (pc := 19) 1 dX12_load_19 rfl rfl ?_
  refine z_bipush hC (pc := 20) (v := 8) dX12_load_20 (by decide) ?_
  refine z_icmp_geT hC (pc := 22) 33 dX12_load_22 (by decide) hy2 ?_
  exact hT _ _ _ _ _ _ 123 125 exn dX12_load_33 dX12_load_36 dX12_load_37 dX12_load_40 (by decide +kernel) (by decide +kernel) zw1740 zw27 atg_125 atb_125 ato_125 (by decide) (Nat.le_of_ble_eq_true rfl) (Nat.le_of_ble_eq_true rfl) (Nat.le_of_ble_eq_true rfl)
set_option maxRecDepth 100000 in
theorem pload1_m (l : Launch) (G : zG) (h0 : Nat) (x1 : Int32) (g2 : Nat) (g3 : Nat) (g4 : Nat) (g5 : Nat) (g6 : Nat) (g7 : Nat) (g8 : Nat) (g9 : Nat) (g10 : Nat) (g11 : Nat) (g12 : Nat) (g13 : Nat) (g14 : Nat) (g15 : Nat) (g16 : Nat) (g17 : Nat) (g18 : Nat) (g19 : Nat) (g20 : Nat) (g21 : Nat) (g22 : Nat) (g23 : Nat) (g24 : Nat) (g25 : Nat) (g26 : Nat) (g27 : Nat) (g28 : Nat) (g29 : Nat) (g30 : Nat) (g31 : Nat) (g32 : Nat) (g33 : Nat) (g34 : Nat) (g35 : Nat) (g36 : Nat) (g37 : Nat) (g38 : Nat) (g39 : Nat) (g40 : Nat) (g41 : Nat) (g42 : Nat) (g43 : Nat) (g44 : Nat) (g45 : Nat) (g46 : Nat) (g47 : Nat) (g48 : Nat) (g49 : Nat) (g50 : Nat) (g51 : Nat) (g52 : Nat) (g53 : Nat) (g54 : Nat) (g55 : Nat) (g56 : Nat) (g57 : Nat) (g58 : Nat) (g59 : Nat) (g60 : Nat) (g61 : Nat) (g62 : Nat) (g63 : Nat) (g64 : Nat) (g65 : Nat) (g66 : Nat) (g67 : Nat) (g68 : Nat) (g69 : Nat) (g70 : Nat) (g71 : Nat) (g72 : Nat) (g73 : Nat) (g74 : Nat) (hy1 : ¬ x1 < 0) (hy2 : 8 ≤ x1) : zMi l G yX14_load cX14_load 5 .int 0 0 0 0 [.ref h0, .int x1] [(h0, .inr (14, [.int 0, .ref g2, .ref g3, .int 0, .ref g4, .ref g5, .ref g6, .null, .null, .null, .int 0, .int 0, .int 0, .int 0, .int 0, .null, .int 0, .int 0, .int 0, .int 0, .ref g7, .int 0, .int 0, .int 0, .int 0, .int 0, .ref g8, .ref g9, .int 0, .int 0, .int 0, .int 0, .int (-1), .int (-1), .ref g10, .ref g11, .ref g12, .ref g13, .int 0, .int 0, .ref g14, .int 0, .int 0, .int 0, .int 0, .int 0, .ref g15, .ref g16, .ref g17, .ref g18, .ref g19, .ref g20, .ref g21, .ref g22, .ref g23, .ref g24, .ref g25, .ref g26, .ref g27, .ref g28, .int 0, .ref g29, .ref g30, .ref g31, .ref g32, .int 0, .int 0, .int 0, .int 0, .ref g33, .int 0, .int 0, .int 0, .int 0, .int 0, .ref g34, .ref g35, .ref g36, .ref g37, .ref g38, .int 0, .int 0, .int 0, .int 0, .ref g39, .ref g40, .ref g41, .ref g42, .int 0, .ref g43, .ref g44, .ref g45, .int 0, .ref g46, .int 0, .ref g47, .int 0, .int 0, .int 0, .int 0, .int 0, .int 0, .ref g48, .int 0, .int 0, .ref g49, .ref g50, .ref g51, .ref g52, .ref g53, .ref g54, .ref g55, .int 0, .int 0, .ref g56, .ref g57, .ref g58, .ref g59, .int 0, .int 0, .ref g60, .ref g61, .int 0, .int 0, .ref g62, .ref g63, .ref g64, .ref g65, .ref g66, .ref g67, .ref g68, .ref g69, .ref g70, .ref g71, .ref g72, .int 0, .ref g73, .int 0, .ref g74]))] (fun r w => r = 0 ∧ w = [(h0, .inr (14, [.int 1, .ref g2, .ref g3, .int 0, .ref g4, .ref g5, .ref g6, .null, .null, .null, .int 0, .int 0, .int 0, .int 0, .int 0, .null, .int 0, .int 0, .int 0, .int 0, .ref g7, .int 0, .int 0, .int 0, .int 0, .int 0, .ref g8, .ref g9, .int 0, .int 0, .int 0, .int 0, .int (-1), .int (-1), .ref g10, .ref g11, .ref g12, .ref g13, .int 0, .int 0, .ref g14, .int 0, .int 0, .int 0, .int 0, .int 0, .ref g15, .ref g16, .ref g17, .ref g18, .ref g19, .ref g20, .ref g21, .ref g22, .ref g23, .ref g24, .ref g25, .ref g26, .ref g27, .ref g28, .int 0, .ref g29, .ref g30, .ref g31, .ref g32, .int 0, .int 0, .int 0, .int 0, .ref g33, .int 0, .int 0, .int 0, .int 0, .int 0, .ref g34, .ref g35, .ref g36, .ref g37, .ref g38, .int 0, .int 0, .int 0, .int 0, .ref g39, .ref g40, .ref g41, .ref g42, .int 0, .ref g43, .ref g44, .ref g45, .int 0, .ref g46, .int 0, .ref g47, .int 0, .int 0, .int 0, .int 0, .int 0, .int 0, .ref g48, .int 0, .int 0, .ref g49, .ref g50, .ref g51, .ref g52, .ref g53, .ref g54, .ref g55, .int 0, .int 0, .ref g56, .ref g57, .ref g58, .ref g59, .int 0, .int 0, .ref g60, .ref g61, .int 0, .int 0, .ref g62, .ref g63, .ref g64, .ref g65, .ref g66, .ref g67, .ref g68, .ref g69, .ref g70, .ref g71, .ref g72, .int 0, .ref g73, .int 0, .ref g74]))]) := by
  refine zMi.intro (by decide) (Nat.le_of_ble_eq_true rfl) (fun X hC hR => ?_)
  refine z_aload_n hC (pc := 0) 0 dX14_load_0 rfl rfl ?_
  refine z_iconst hC (pc := 1) (v := 0) dX14_load_1 (by decide) ?_
  refine z_put hC (pc := 2) zf14 0 0 [(h0, .inr (14, [.int 0, .ref g2, .ref g3, .int 0, .ref g4, .ref g5, .ref g6, .null, .null, .null, .int 0, .int 0, .int 0, .int 0, .int 0, .null, .int 0, .int 0, .int 0, .int 0, .ref g7, .int 0, .int 0, .int 0, .int 0, .int 0, .ref g8, .ref g9, .int 0, .int 0, .int 0, .int 0, .int (-1), .int (-1), .ref g10, .ref g11, .ref g12, .ref g13, .int 0, .int 0, .ref g14, .int 0, .int 0, .int 0, .int 0, .int 0, .ref g15, .ref g16, .ref g17, .ref g18, .ref g19, .ref g20, .ref g21, .ref g22, .ref g23, .ref g24, .ref g25, .ref g26, .ref g27, .ref g28, .int 0, .ref g29, .ref g30, .ref g31, .ref g32, .int 0, .int 0, .int 0, .int 0, .ref g33, .int 0, .int 0, .int 0, .int 0, .int 0, .ref g34, .ref g35, .ref g36, .ref g37, .ref g38, .int 0, .int 0, .int 0, .int 0, .ref g39, .ref g40, .ref g41, .ref g42, .int 0, .ref g43, .ref g44, .ref g45, .int 0, .ref g46, .int 0, .ref g47, .int 0, .int 0, .int 0, .int 0, .int 0, .int 0, .ref g48, .int 0, .int 0, .ref g49, .ref g50, .ref g51, .ref g52, .ref g53, .ref g54, .ref g55, .int 0, .int 0, .ref g56, .ref g57, .ref g58, .ref g59, .int 0, .int 0, .ref g60, .ref g61, .int 0, .int 0, .ref g62, .ref g63, .ref g64, .ref g65, .ref g66, .ref g67, .ref g68, .ref g69, .ref g70, .ref g71, .ref g72, .int 0, .ref g73, .int 0, .ref g74]))] dX14_load_2 zw2468 rfl rfl rfl rfl rfl (kk := ?_)
  refine z_aload_n hC (pc := 5) 0 dX14_load_5 rfl rfl ?_
  refine z_iconst hC (pc := 6) (v := 0) dX14_load_6 (by decide) ?_
  refine z_put hC (pc := 7) zf14 0 10 [(h0, .inr (14, [.int 0, .ref g2, .ref g3, .int 0, .ref g4, .ref g5, .ref g6, .null, .null, .null, .int 0, .int 0, .int 0, .int 0, .int 0, .null, .int 0, .int 0, .int 0, .int 0, .ref g7, .int 0, .int 0, .int 0, .int 0, .int 0, .ref g8, .ref g9, .int 0, .int 0, .int 0, .int 0, .int (-1), .int (-1), .ref g10, .ref g11, .ref g12, .ref g13, .int 0, .int 0, .ref g14, .int 0, .int 0, .int 0, .int 0, .int 0, .ref g15, .ref g16, .ref g17, .ref g18, .ref g19, .ref g20, .ref g21, .ref g22, .ref g23, .ref g24, .ref g25, .ref g26, .ref g27, .ref g28, .int 0, .ref g29, .ref g30, .ref g31, .ref g32, .int 0, .int 0, .int 0, .int 0, .ref g33, .int 0, .int 0, .int 0, .int 0, .int 0, .ref g34, .ref g35, .ref g36, .ref g37, .ref g38, .int 0, .int 0, .int 0, .int 0, .ref g39, .ref g40, .ref g41, .ref g42, .int 0, .ref g43, .ref g44, .ref g45, .int 0, .ref g46, .int 0, .ref g47, .int 0, .int 0, .int 0, .int 0, .int 0, .int 0, .ref g48, .int 0, .int 0, .ref g49, .ref g50, .ref g51, .ref g52, .ref g53, .ref g54, .ref g55, .int 0, .int 0, .ref g56, .ref g57, .ref g58, .ref g59, .int 0, .int 0, .ref g60, .ref g61, .int 0, .int 0, .ref g62, .ref g63, .ref g64, .ref g65, .ref g66, .ref g67, .ref g68, .ref g69, .ref g70, .ref g71, .ref g72, .int 0, .ref g73, .int 0, .ref g74]))] dX14_load_7 zw2478 rfl rfl rfl rfl rfl (kk := ?_)
  refine z_iload_n hC (pc := 10) 1 dX14_load_10 rfl rfl ?_
  refine z_if_ltF hC (pc := 11) 20 dX14_load_11 (by decide) hy1 ?_
  refine z_iload_n hC (pc := 14) 1 dX14_load_14 rfl rfl ?_
  refine z_bipush hC (pc := 15) (v := 8) dX14_load_15 (by decide) ?_
  refine z_icmp_ltF hC (pc := 17) 27 dX14_load_17 (by decide) (by simp only [Int32.lt_iff_toInt_lt, Int32.le_iff_toInt_le, ← Int32.toInt_inj, Int32.reduceToInt, Int32.zero_add] at hy1 hy2 ⊢; omega) ?_
  refine z_aload_n hC (pc := 20) 0 dX14_load_20 rfl rfl ?_
  refine z_iconst hC (pc := 21) (v := 1) dX14_load_21 (by decide) ?_
  refine z_put hC (pc := 22) zf14 0 0 [(h0, .inr (14, [.int 1, .ref g2, .ref g3, .int 0, .ref g4, .ref g5, .ref g6, .null, .null, .null, .int 0, .int 0, .int 0, .int 0, .int 0, .null, .int 0, .int 0, .int 0, .int 0, .ref g7, .int 0, .int 0, .int 0, .int 0, .int 0, .ref g8, .ref g9, .int 0, .int 0, .int 0, .int 0, .int (-1), .int (-1), .ref g10, .ref g11, .ref g12, .ref g13, .int 0, .int 0, .ref g14, .int 0, .int 0, .int 0, .int 0, .int 0, .ref g15, .ref g16, .ref g17, .ref g18, .ref g19, .ref g20, .ref g21, .ref g22, .ref g23, .ref g24, .ref g25, .ref g26, .ref g27, .ref g28, .int 0, .ref g29, .ref g30, .ref g31, .ref g32, .int 0, .int 0, .int 0, .int 0, .ref g33, .int 0, .int 0, .int 0, .int 0, .int 0, .ref g34, .ref g35, .ref g36, .ref g37, .ref g38, .int 0, .int 0, .int 0, .int 0, .ref g39, .ref g40, .ref g41, .ref g42, .int 0, .ref g43, .ref g44, .ref g45, .int 0, .ref g46, .int 0, .ref g47, .int 0, .int 0, .int 0, .int 0, .int 0, .int 0, .ref g48, .int 0, .int 0, .ref g49, .ref g50, .ref g51, .ref g52, .ref g53, .ref g54, .ref g55, .int 0, .int 0, .ref g56, .ref g57, .ref g58, .ref g59, .int 0, .int 0, .ref g60, .ref g61, .int 0, .int 0, .ref g62, .ref g63, .ref g64, .ref g65, .ref g66, .ref g67, .ref g68, .ref g69, .ref g70, .ref g71, .ref g72, .int 0, .ref g73, .int 0, .ref g74]))] dX14_load_22 zw2468 rfl rfl rfl rfl rfl (kk := ?_)
  refine z_iconst hC (pc := 25) (v := 0) dX14_load_25 (by decide) ?_
  exact hR _ _ _ _ _ _ dX14_load_26 rfl (Nat.le_of_ble_eq_true rfl) (Nat.le_of_ble_eq_true rfl) ⟨rfl, rfl⟩
set_option maxRecDepth 100000 in
theorem kX6_hash_119 (l : Launch) (G : zG) : zMi l G yX6_hash cX6_hash 5 .int 0 0 0 0 [.ref (G.2.2 0), .int 0, .int 1] [] (fun r w => r = 136 ∧ w = []) := by
  refine zMi.intro (by decide) (Nat.le_of_ble_eq_true rfl) (fun X hC hR => ?_)
  refine z_iload_n hC (pc := 0) 2 dX6_hash_0 rfl rfl ?_
  refine z_istore_n hC (pc := 1) (lv' := [(3, .int 1), (0, .ref (G.2.2 0)), (1, .int 0), (2, .int 1)]) dX6_hash_1 rfl (by decide) rfl ?_
  refine z_iload_n hC (pc := 2) 2 dX6_hash_2 rfl rfl ?_
  refine z_istore hC (pc := 3) (lv' := [(4, .int 0), (3, .int 1), (0, .ref (G.2.2 0)), (1, .int 0), (2, .int 1)]) dX6_hash_3 (by decide) rfl ?_
  refine z_iload hC (pc := 5) 0 dX6_hash_5 rfl ?_
  refine z_iload_n hC (pc := 7) 3 dX6_hash_7 rfl rfl ?_
  refine z_iload_n hC (pc := 8) 4 dX6_hash_8 rfl rfl ?_
  refine z_iadd hC (pc := 9) (v := 1) dX6_hash_9 (by decide) ?_
  refine z_icmp_geF hC (pc := 10) 41 dX6_hash_10 (by decide) (by decide) ?_
  refine z_iload hC (pc := 13) 0 dX6_hash_13 rfl ?_
  refine z_if_ltF hC (pc := 15) 41 dX6_hash_15 (by decide) (by decide) ?_
  refine z_iload hC (pc := 18) 0 dX6_hash_18 rfl ?_
  refine z_aload_n hC (pc := 20) 2 dX6_hash_20 rfl rfl ?_
  refine z_talen hC (pc := 21) (v := 2) dX6_hash_21 rfl ?_
  refine z_icmp_geF hC (pc := 22) 41 dX6_hash_22 (by decide) (by decide) ?_
  refine z_iload_n hC (pc := 25) 1 dX6_hash_25 rfl rfl ?_
  refine z_bipush hC (pc := 26) (v := 31) dX6_hash_26 (by decide) ?_
  refine z_imul hC (pc := 28) (v := 31) dX6_hash_28 (by decide) ?_
  refine z_aload_n hC (pc := 29) 2 dX6_hash_29 rfl rfl ?_
  refine z_iload hC (pc := 30) 0 dX6_hash_30 rfl ?_
  refine z_tbald hC (pc := 32) (v := 105) dX6_hash_32 (zvi rfl) rfl ?_
  refine z_iadd hC (pc := 33) (v := 136) dX6_hash_33 (by decide) ?_
  refine z_istore_n hC (pc := 34) (lv' := [(3, .int 136), (4, .int 0), (0, .ref (G.2.2 0)), (1, .int 0), (2, .int 1)]) dX6_hash_34 rfl (by decide) rfl ?_
  refine z_iinc hC (pc := 35) (v := 1) (lv' := [(4, .int 1), (3, .int 136), (0, .ref (G.2.2 0)), (1, .int 0), (2, .int 1)]) 1 dX6_hash_35 rfl (by decide) (by decide) rfl ?_
  refine z_goto hC (pc := 38) 5 dX6_hash_38 (by decide) ?_
  refine z_iload hC (pc := 5) 0 dX6_hash_5 rfl ?_
  refine z_iload_n hC (pc := 7) 3 dX6_hash_7 rfl rfl ?_
  refine z_iload_n hC (pc := 8) 4 dX6_hash_8 rfl rfl ?_
  refine z_iadd hC (pc := 9) (v := 1) dX6_hash_9 (by decide) ?_
  refine z_icmp_geT hC (pc := 10) 41 dX6_hash_10 (by decide) (by decide) ?_
  refine z_iload_n hC (pc := 41) 1 dX6_hash_41 rfl rfl ?_
  refine z_iload_n hC (pc := 42) 1 dX6_hash_42 rfl rfl ?_
  refine z_bipush hC (pc := 43) (v := 13) dX6_hash_43 (by decide) ?_
  refine z_iushr hC (pc := 45) (v := 0) dX6_hash_45 (by decide) ?_
  refine z_ixor hC (pc := 46) (v := 136) dX6_hash_46 (by decide) ?_
  refine z_sipush hC (pc := 47) (v := 8191) dX6_hash_47 (by decide) ?_
  refine z_iand hC (pc := 50) (v := 136) dX6_hash_50 (by decide) ?_
  exact hR _ _ _ _ _ _ dX6_hash_51 rfl (Nat.le_of_ble_eq_true rfl) (Nat.le_of_ble_eq_true rfl) ⟨rfl, rfl⟩
set_option maxRecDepth 100000 in
theorem kX12_get_120 (l : Launch) (G : zG) (h0 : Nat) : zMi l G yX12_get cX12_get 2 .int 0 0 0 0 [.ref h0, .int 136] [(h0, .inl (G.2.1 0, 8192, .inl (fun _ => (-1))))] (fun r w => r = (-1) ∧ w = [(h0, .inl (G.2.1 0, 8192, .inl (fun _ => (-1))))]) := by
  refine zMi.intro (by decide) (Nat.le_of_ble_eq_true rfl) (fun X hC hR => ?_)
  refine z_iload_n hC (pc := 0) 1 dX12_get_0 rfl rfl ?_
  refine z_if_ltF hC (pc := 1) 16 dX12_get_1 (by decide) (by decide) ?_
  refine z_iload_n hC (pc := 4) 1 dX12_get_4 rfl rfl ?_
  refine z_aload_n hC (pc := 5) 0 dX12_get_5 rfl rfl ?_
  refine z_alen0 hC (pc := 6) (v := 8192) 0 dX12_get_6 rfl rfl ?_
  refine z_icmp_geF hC (pc := 7) 16 dX12_get_7 (by decide) (by decide) ?_
  refine z_aload_n hC (pc := 10) 0 dX12_get_10 rfl rfl ?_
  refine z_iload_n hC (pc := 11) 1 dX12_get_11 rfl rfl ?_
  refine z_iald hC (pc := 12) (v := (-1)) 0 dX12_get_12 rfl (zvi rfl) rfl ?_
  refine z_goto hC (pc := 13) 17 dX12_get_13 (by decide) ?_
  exact hR _ _ _ _ _ _ dX12_get_17 rfl (Nat.le_of_ble_eq_true rfl) (Nat.le_of_ble_eq_true rfl) ⟨rfl, rfl⟩
set_option maxRecDepth 100000 in
theorem kX6_find_121 (l : Launch) (G : zG) (h0 : Nat) (h1 : Nat) (g2 : Nat) (g3 : Nat) (g4 : Nat) : zMi l G yX6_find cX6_find 6 .int 1 24 0 0 [.ref h0, .ref (G.2.2 0), .int 0, .int 1] [(h0, .inr (6, [.ref g2, .ref g3, .ref g4, .ref h1, .int 0, .int 0])), (h1, .inl (G.2.1 0, 8192, .inl (fun _ => (-1))))] (fun r w => r = (-1) ∧ w = [(h0, .inr (6, [.ref g2, .ref g3, .ref g4, .ref h1, .int 0, .int 0])), (h1, .inl (G.2.1 0, 8192, .inl (fun _ => (-1))))]) := by
  refine zMi.intro (by decide) (Nat.le_of_ble_eq_true rfl) (fun X hC hR => ?_)
  refine z_aload_n hC (pc := 0) 0 dX6_find_0 rfl rfl ?_
  refine z_get hC (pc := 1) zf6 0 3 dX6_find_1 zw183 rfl rfl (kk := ?_)
  refine z_aload_n hC (pc := 4) 1 dX6_find_4 rfl rfl ?_
  refine z_iload_n hC (pc := 5) 2 dX6_find_5 rfl rfl ?_
  refine z_iload_n hC (pc := 6) 3 dX6_find_6 rfl rfl ?_
  refine z_callSi hC (pc := 7) (k := 0) (n := 0) (As := [.ref (G.2.2 0), .int 0, .int 1]) (wr := [(h0, .inr (6, [.ref g2, .ref g3, .ref g4, .ref h1, .int 0, .int 0])), (h1, .inl (G.2.1 0, 8192, .inl (fun _ => (-1))))]) (kX6_hash_119 l G) dmX6_hash [] [0, 1] rfl rfl rfl dX6_find_7 zw962 rfl rfl (Nat.le_of_ble_eq_true rfl) (Nat.le_of_ble_eq_true rfl) (Nat.le_of_ble_eq_true rfl) (Nat.le_of_ble_eq_true rfl) (Nat.le_of_ble_eq_true rfl) (fun r w hp => ?_)
  obtain ⟨rfl, rfl⟩ := hp
  refine z_callSNi hC (pc := 10) (k := 0) (n := 0) (As := [.ref h1, .int 136]) (wr := [(h0, .inr (6, [.ref g2, .ref g3, .ref g4, .ref h1, .int 0, .int 0]))]) (kX12_get_120 l G h1) dmX12_get [1] [0] rfl rfl rfl dX6_find_10 zw965 rfl rfl (Nat.le_of_ble_eq_true rfl) (Nat.le_of_ble_eq_true rfl) (Nat.le_of_ble_eq_true rfl) (Nat.le_of_ble_eq_true rfl) (Nat.le_of_ble_eq_true rfl) (fun r w hp => ?_)
  obtain ⟨rfl, rfl⟩ := hp
  refine z_istore hC (pc := 13) (lv' := [(4, .int (-1)), (0, .ref h0), (1, .ref (G.2.2 0)), (2, .int 0), (3, .int 1)]) dX6_find_13 (by decide) rfl ?_
  refine z_iconst hC (pc := 15) (v := 0) dX6_find_15 (by decide) ?_
  refine z_istore hC (pc := 16) (lv' := [(5, .int 0), (4, .int (-1)), (0, .ref h0), (1, .ref (G.2.2 0)), (2, .int 0), (3, .int 1)]) dX6_find_16 (by decide) rfl ?_
  refine z_iload hC (pc := 18) 0 dX6_find_18 rfl ?_
  refine z_aload_n hC (pc := 20) 2 dX6_find_20 rfl rfl ?_
  refine z_get hC (pc := 21) zf6 0 4 dX6_find_21 zw184 rfl rfl (kk := ?_)
  refine z_icmp_geT hC (pc := 24) 84 dX6_find_24 (by decide) (by decide) ?_
  refine z_iconst hC (pc := 84) (v := (-1)) dX6_find_84 (by decide) ?_
  exact hR _ _ _ _ _ _ dX6_find_85 rfl (Nat.le_of_ble_eq_true rfl) (Nat.le_of_ble_eq_true rfl) ⟨rfl, rfl⟩
set_option maxRecDepth 100000 in
theorem kX12_getByte_122 (l : Launch) (G : zG) : zMi l G yX12_getByte cX12_getByte 2 .int 0 0 0 0 [.ref (G.2.2 0), .int 0] [] (fun r w => r = 105 ∧ w = []) := by
  refine zMi.intro (by decide) (Nat.le_of_ble_eq_true rfl) (fun X hC hR => ?_)
  refine z_iload_n hC (pc := 0) 1 dX12_getByte_0 rfl rfl ?_
  refine z_if_ltF hC (pc := 1) 20 dX12_getByte_1 (by decide) (by decide) ?_
  refine z_iload_n hC (pc := 4) 1 dX12_getByte_4 rfl rfl ?_
  refine z_aload_n hC (pc := 5) 0 dX12_getByte_5 rfl rfl ?_
  refine z_talen hC (pc := 6) (v := 2) dX12_getByte_6 rfl ?_
  refine z_icmp_geF hC (pc := 7) 20 dX12_getByte_7 (by decide) (by decide) ?_
  refine z_aload_n hC (pc := 10) 0 dX12_getByte_10 rfl rfl ?_
  refine z_iload_n hC (pc := 11) 1 dX12_getByte_11 rfl rfl ?_
  refine z_tbald hC (pc := 12) (v := 105) dX12_getByte_12 (zvi rfl) rfl ?_
  refine z_sipush hC (pc := 13) (v := 255) dX12_getByte_13 (by decide) ?_
  refine z_iand hC (pc := 16) (v := 105) dX12_getByte_16 (by decide) ?_
  refine z_goto hC (pc := 17) 21 dX12_getByte_17 (by decide) ?_
  exact hR _ _ _ _ _ _ dX12_getByte_21 rfl (Nat.le_of_ble_eq_true rfl) (Nat.le_of_ble_eq_true rfl) ⟨rfl, rfl⟩
set_option maxRecDepth 100000 in
theorem kX12_setByte_123 (l : Launch) (G : zG) (h0 : Nat) : zMv l G yX12_setByte cX12_setByte 3 0 0 0 0 [.ref h0, .int 0, .int 105] [(h0, .inl (G.2.1 1, 32100, .inl (fun _ => 0)))] (fun w => w = [(h0, .inl (G.2.1 1, 32100, .inl (upd (fun _ => 0) 0 105)))]) := by
  refine zMv.intro (by decide) (Nat.le_of_ble_eq_true rfl) (fun X hC hR => ?_)
  refine z_iload_n hC (pc := 0) 1 dX12_setByte_0 rfl rfl ?_
  refine z_if_ltF hC (pc := 1) 15 dX12_setByte_1 (by decide) (by decide) ?_
  refine z_iload_n hC (pc := 4) 1 dX12_setByte_4 rfl rfl ?_
  refine z_aload_n hC (pc := 5) 0 dX12_setByte_5 rfl rfl ?_
  refine z_alen1 hC (pc := 6) (v := 32100) 0 dX12_setByte_6 rfl rfl ?_
  refine z_icmp_geF hC (pc := 7) 15 dX12_setByte_7 (by decide) (by decide) ?_
  refine z_aload_n hC (pc := 10) 0 dX12_setByte_10 rfl rfl ?_
  refine z_iload_n hC (pc := 11) 1 dX12_setByte_11 rfl rfl ?_
  refine z_iload_n hC (pc := 12) 2 dX12_setByte_12 rfl rfl ?_
  refine z_i2b hC (pc := 13) (v := 105) dX12_setByte_13 (by decide) ?_
  refine z_bast hC (pc := 14) (f' := (upd (fun _ => 0) 0 105)) 0 [(h0, .inl (G.2.1 1, 32100, .inl (upd (fun _ => 0) 0 105)))] dX12_setByte_14 rfl (zvi rfl) rfl rfl ?_
  exact hR _ _ _ _ _ dX12_setByte_15 (Nat.le_of_ble_eq_true rfl) (Nat.le_of_ble_eq_true rfl) rfl
set_option maxRecDepth 100000 in
theorem kX12_set_124 (l : Launch) (G : zG) (h0 : Nat) : zMv l G yX12_set cX12_set 3 0 0 0 0 [.ref h0, .int 0, .int 0] [(h0, .inl (G.2.1 0, 16102, .inl (fun _ => 0)))] (fun w => w = [(h0, .inl (G.2.1 0, 16102, .inl (upd (fun _ => 0) 0 0)))]) := by
  refine zMv.intro (by decide) (Nat.le_of_ble_eq_true rfl) (fun X hC hR => ?_)
  refine z_iload_n hC (pc := 0) 1 dX12_set_0 rfl rfl ?_
  refine z_if_ltF hC (pc := 1) 14 dX12_set_1 (by decide) (by decide) ?_
  refine z_iload_n hC (pc := 4) 1 dX12_set_4 rfl rfl ?_
  refine z_aload_n hC (pc := 5) 0 dX12_set_5 rfl rfl ?_
  refine z_alen0 hC (pc := 6) (v := 16102) 0 dX12_set_6 rfl rfl ?_
  refine z_icmp_geF hC (pc := 7) 14 dX12_set_7 (by decide) (by decide) ?_
  refine z_aload_n hC (pc := 10) 0 dX12_set_10 rfl rfl ?_
  refine z_iload_n hC (pc := 11) 1 dX12_set_11 rfl rfl ?_
  refine z_iload_n hC (pc := 12) 2 dX12_set_12 rfl rfl ?_
  refine z_iast hC (pc := 13) (f' := (upd (fun _ => 0) 0 0)) 0 [(h0, .inl (G.2.1 0, 16102, .inl (upd (fun _ => 0) 0 0)))] dX12_set_13 rfl (zvi rfl) rfl rfl ?_
  exact hR _ _ _ _ _ dX12_set_14 (Nat.le_of_ble_eq_true rfl) (Nat.le_of_ble_eq_true rfl) rfl
set_option maxRecDepth 100000 in
theorem kX12_set_125 (l : Launch) (G : zG) (h0 : Nat) : zMv l G yX12_set cX12_set 3 0 0 0 0 [.ref h0, .int 1, .int 1] [(h0, .inl (G.2.1 0, 16102, .inl (upd (fun _ => 0) 0 0)))] (fun w => w = [(h0, .inl (G.2.1 0, 16102, .inl (upd (upd (fun _ => 0) 0 0) 1 1)))]) := by
  refine zMv.intro (by decide) (Nat.le_of_ble_eq_true rfl) (fun X hC hR => ?_)
  refine z_iload_n hC (pc := 0) 1 dX12_set_0 rfl rfl ?_
  refine z_if_ltF hC (pc := 1) 14 dX12_set_1 (by decide) (by decide) ?_
  refine z_iload_n hC (pc := 4) 1 dX12_set_4 rfl rfl ?_
  refine z_aload_n hC (pc := 5) 0 dX12_set_5 rfl rfl ?_
  refine z_alen0 hC (pc := 6) (v := 16102) 0 dX12_set_6 rfl rfl ?_
  refine z_icmp_geF hC (pc := 7) 14 dX12_set_7 (by decide) (by decide) ?_
  refine z_aload_n hC (pc := 10) 0 dX12_set_10 rfl rfl ?_
  refine z_iload_n hC (pc := 11) 1 dX12_set_11 rfl rfl ?_
  refine z_iload_n hC (pc := 12) 2 dX12_set_12 rfl rfl ?_
  refine z_iast hC (pc := 13) (f' := (upd (upd (fun _ => 0) 0 0) 1 1)) 0 [(h0, .inl (G.2.1 0, 16102, .inl (upd (upd (fun _ => 0) 0 0) 1 1)))] dX12_set_13 rfl (zvi rfl) rfl rfl ?_
  exact hR _ _ _ _ _ dX12_set_14 (Nat.le_of_ble_eq_true rfl) (Nat.le_of_ble_eq_true rfl) rfl
set_option maxRecDepth 100000 in
theorem kX12_set_126 (l : Launch) (G : zG) (h0 : Nat) : zMv l G yX12_set cX12_set 3 0 0 0 0 [.ref h0, .int 0, .int (-1)] [(h0, .inl (G.2.1 0, 16102, .inl (fun _ => 0)))] (fun w => w = [(h0, .inl (G.2.1 0, 16102, .inl (upd (fun _ => 0) 0 (-1))))]) := by
  refine zMv.intro (by decide) (Nat.le_of_ble_eq_true rfl) (fun X hC hR => ?_)
  refine z_iload_n hC (pc := 0) 1 dX12_set_0 rfl rfl ?_
  refine z_if_ltF hC (pc := 1) 14 dX12_set_1 (by decide) (by decide) ?_
  refine z_iload_n hC (pc := 4) 1 dX12_set_4 rfl rfl ?_
  refine z_aload_n hC (pc := 5) 0 dX12_set_5 rfl rfl ?_
  refine z_alen0 hC (pc := 6) (v := 16102) 0 dX12_set_6 rfl rfl ?_
  refine z_icmp_geF hC (pc := 7) 14 dX12_set_7 (by decide) (by decide) ?_
  refine z_aload_n hC (pc := 10) 0 dX12_set_10 rfl rfl ?_
  refine z_iload_n hC (pc := 11) 1 dX12_set_11 rfl rfl ?_
  refine z_iload_n hC (pc := 12) 2 dX12_set_12 rfl rfl ?_
  refine z_iast hC (pc := 13) (f' := (upd (fun _ => 0) 0 (-1))) 0 [(h0, .inl (G.2.1 0, 16102, .inl (upd (fun _ => 0) 0 (-1))))] dX12_set_13 rfl (zvi rfl) rfl rfl ?_
  exact hR _ _ _ _ _ dX12_set_14 (Nat.le_of_ble_eq_true rfl) (Nat.le_of_ble_eq_true rfl) rfl
set_option maxRecDepth 100000 in
theorem kX12_set_127 (l : Launch) (G : zG) (h0 : Nat) : zMv l G yX12_set cX12_set 3 0 0 0 0 [.ref h0, .int 136, .int 0] [(h0, .inl (G.2.1 0, 8192, .inl (fun _ => (-1))))] (fun w => w = [(h0, .inl (G.2.1 0, 8192, .inl (upd (fun _ => (-1)) 136 0)))]) := by
  refine zMv.intro (by decide) (Nat.le_of_ble_eq_true rfl) (fun X hC hR => ?_)
  refine z_iload_n hC (pc := 0) 1 dX12_set_0 rfl rfl ?_
  refine z_if_ltF hC (pc := 1) 14 dX12_set_1 (by decide) (by decide) ?_
  refine z_iload_n hC (pc := 4) 1 dX12_set_4 rfl rfl ?_
  refine z_aload_n hC (pc := 5) 0 dX12_set_5 rfl rfl ?_
  refine z_alen0 hC (pc := 6) (v := 8192) 0 dX12_set_6 rfl rfl ?_
  refine z_icmp_geF hC (pc := 7) 14 dX12_set_7 (by decide) (by decide) ?_
  refine z_aload_n hC (pc := 10) 0 dX12_set_10 rfl rfl ?_
  refine z_iload_n hC (pc := 11) 1 dX12_set_11 rfl rfl ?_
  refine z_iload_n hC (pc := 12) 2 dX12_set_12 rfl rfl ?_
  refine z_iast hC (pc := 13) (f' := (upd (fun _ => (-1)) 136 0)) 0 [(h0, .inl (G.2.1 0, 8192, .inl (upd (fun _ => (-1)) 136 0)))] dX12_set_13 rfl (zvi rfl) rfl rfl ?_
  exact hR _ _ _ _ _ dX12_set_14 (Nat.le_of_ble_eq_true rfl) (Nat.le_of_ble_eq_true rfl) rfl
set_option maxRecDepth 100000 in
theorem kX6_intern_128 (l : Launch) (G : zG) (h0 : Nat) (h1 : Nat) (h2 : Nat) (h3 : Nat) (h4 : Nat) : zMi l G yX6_intern cX6_intern 6 .int 2 49 0 0 [.ref h0, .ref (G.2.2 0), .int 0, .int 1] [(h0, .inr (6, [.ref h2, .ref h3, .ref h4, .ref h1, .int 0, .int 0])), (h1, .inl (G.2.1 0, 8192, .inl (fun _ => (-1)))), (h2, .inl (G.2.1 1, 32100, .inl (fun _ => 0))), (h3, .inl (G.2.1 0, 16102, .inl (fun _ => 0))), (h4, .inl (G.2.1 0, 16102, .inl (fun _ => 0)))] (fun r w => r = 0 ∧ w = [(h0, .inr (6, [.ref h2, .ref h3, .ref h4, .ref h1, .int 1, .int 1])), (h2, .inl (G.2.1 1, 32100, .inl (upd (fun _ => 0) 0 105))), (h3, .inl (G.2.1 0, 16102, .inl (upd (upd (fun _ => 0) 0 0) 1 1))), (h4, .inl (G.2.1 0, 16102, .inl (upd (fun _ => 0) 0 (-1)))), (h1, .inl (G.2.1 0, 8192, .inl (upd (fun _ => (-1)) 136 0)))]) := by
  refine zMi.intro (by decide) (Nat.le_of_ble_eq_true rfl) (fun X hC hR => ?_)
  refine z_aload_n hC (pc := 0) 0 dX6_intern_0 rfl rfl ?_
  refine z_aload_n hC (pc := 1) 1 dX6_intern_1 rfl rfl ?_
  refine z_iload_n hC (pc := 2) 2 dX6_intern_2 rfl rfl ?_
  refine z_iload_n hC (pc := 3) 3 dX6_intern_3 rfl rfl ?_
  refine z_callVi hC (pc := 4) (k := 0) (n := 0) (As := [.ref (G.2.2 0), .int 0, .int 1]) (wr := [(h2, .inl (G.2.1 1, 32100, .inl (fun _ => 0))), (h3, .inl (G.2.1 0, 16102, .inl (fun _ => 0))), (h4, .inl (G.2.1 0, 16102, .inl (fun _ => 0)))]) (kX6_find_121 l G h0 h1 h2 h3 h4) dmX6_find zf6 0 rfl [0, 1] [2, 3, 4] rfl rfl rfl dX6_intern_4 zw958 rfl rfl (Nat.le_of_ble_eq_true rfl) (Nat.le_of_ble_eq_true rfl) (Nat.le_of_ble_eq_true rfl) (Nat.le_of_ble_eq_true rfl) (Nat.le_of_ble_eq_true rfl) (fun r w hp => ?_)
  obtain ⟨rfl, rfl⟩ := hp
  refine z_istore hC (pc := 7) (lv' := [(4, .int (-1)), (0, .ref h0), (1, .ref (G.2.2 0)), (2, .int 0), (3, .int 1)]) dX6_intern_7 (by decide) rfl ?_
  refine z_iload hC (pc := 9) 0 dX6_intern_9 rfl ?_
  refine z_if_geF hC (pc := 11) 38 dX6_intern_11 (by decide) (by decide) ?_
  refine z_aload_n hC (pc := 14) 1 dX6_intern_14 rfl rfl ?_
  refine z_get hC (pc := 15) zf6 3 4 dX6_intern_15 zw184 rfl rfl (kk := ?_)
  refine z_sipush hC (pc := 18) (v := 16100) dX6_intern_18 (by decide) ?_
  refine z_icmp_gtF hC (pc := 21) 38 dX6_intern_21 (by decide) (by decide) ?_
  refine z_aload_n hC (pc := 24) 1 dX6_intern_24 rfl rfl ?_
  refine z_get hC (pc := 25) zf6 3 5 dX6_intern_25 zw186 rfl rfl (kk := ?_)
  refine z_iload_n hC (pc := 28) 4 dX6_intern_28 rfl rfl ?_
  refine z_iadd hC (pc := 29) (v := 1) dX6_intern_29 (by decide) ?_
  refine z_aload_n hC (pc := 30) 1 dX6_intern_30 rfl rfl ?_
  refine z_get hC (pc := 31) zf6 3 0 dX6_intern_31 zw174 rfl rfl (kk := ?_)
  refine z_alen1 hC (pc := 34) (v := 32100) 0 dX6_intern_34 rfl rfl ?_
  refine z_icmp_leT hC (pc := 35) 41 dX6_intern_35 (by decide) (by decide) ?_
  refine z_iconst hC (pc := 41) (v := 0) dX6_intern_41 (by decide) ?_
  refine z_istore hC (pc := 42) (lv' := [(5, .int 0), (4, .int (-1)), (0, .ref h0), (1, .ref (G.2.2 0)), (2, .int 0), (3, .int 1)]) dX6_intern_42 (by decide) rfl ?_
  refine z_iload hC (pc := 44) 0 dX6_intern_44 rfl ?_
  refine z_iload_n hC (pc := 46) 5 dX6_intern_46 rfl rfl ?_
  refine z_icmp_geF hC (pc := 47) 78 dX6_intern_47 (by decide) (by decide) ?_
  refine z_aload_n hC (pc := 50) 2 dX6_intern_50 rfl rfl ?_
  refine z_get hC (pc := 51) zf6 3 0 dX6_intern_51 zw174 rfl rfl (kk := ?_)
  refine z_aload_n hC (pc := 54) 2 dX6_intern_54 rfl rfl ?_
  refine z_get hC (pc := 55) zf6 3 5 dX6_intern_55 zw186 rfl rfl (kk := ?_)
  refine z_iload hC (pc := 58) 0 dX6_intern_58 rfl ?_
  refine z_iadd hC (pc := 60) (v := 0) dX6_intern_60 (by decide) ?_
  refine z_aload_n hC (pc := 61) 3 dX6_intern_61 rfl rfl ?_
  refine z_iload_n hC (pc := 62) 4 dX6_intern_62 rfl rfl ?_
  refine z_iload hC (pc := 63) 0 dX6_intern_63 rfl ?_
  refine z_iadd hC (pc := 65) (v := 0) dX6_intern_65 (by decide) ?_
  refine z_callSNi hC (pc := 66) (k := 0) (n := 0) (As := [.ref (G.2.2 0), .int 0]) (wr := [(h2, .inl (G.2.1 1, 32100, .inl (fun _ => 0))), (h3, .inl (G.2.1 0, 16102, .inl (fun _ => 0))), (h4, .inl (G.2.1 0, 16102, .inl (fun _ => 0))), (h0, .inr (6, [.ref h2, .ref h3, .ref h4, .ref h1, .int 0, .int 0])), (h1, .inl (G.2.1 0, 8192, .inl (fun _ => (-1))))]) (kX12_getByte_122 l G) dmX12_getByte [] [0, 1, 2, 3, 4] rfl rfl rfl dX6_intern_66 zw971 rfl rfl (Nat.le_of_ble_eq_true rfl) (Nat.le_of_ble_eq_true rfl) (Nat.le_of_ble_eq_true rfl) (Nat.le_of_ble_eq_true rfl) (Nat.le_of_ble_eq_true rfl) (fun r w hp => ?_)
  obtain ⟨rfl, rfl⟩ := hp
  refine z_callSNv hC (pc := 69) (k := 0) (n := 0) (As := [.ref h2, .int 0, .int 105]) (wr := [(h3, .inl (G.2.1 0, 16102, .inl (fun _ => 0))), (h4, .inl (G.2.1 0, 16102, .inl (fun _ => 0))), (h0, .inr (6, [.ref h2, .ref h3, .ref h4, .ref h1, .int 0, .int 0])), (h1, .inl (G.2.1 0, 8192, .inl (fun _ => (-1))))]) (kX12_setByte_123 l G h2) dmX12_setByte [0] [1, 2, 3, 4] rfl rfl rfl dX6_intern_69 zw972 rfl rfl (Nat.le_of_ble_eq_true rfl) (Nat.le_of_ble_eq_true rfl) (Nat.le_of_ble_eq_true rfl) (Nat.le_of_ble_eq_true rfl) (Nat.le_of_ble_eq_true rfl) (fun w hp => ?_)
  obtain rfl := hp
  refine z_iinc hC (pc := 72) (v := 1) (lv' := [(5, .int 1), (4, .int (-1)), (0, .ref h0), (1, .ref (G.2.2 0)), (2, .int 0), (3, .int 1)]) 0 dX6_intern_72 rfl (by decide) (by decide) rfl ?_
  refine z_goto hC (pc := 75) 44 dX6_intern_75 (by decide) ?_
  refine z_iload hC (pc := 44) 0 dX6_intern_44 rfl ?_
  refine z_iload_n hC (pc := 46) 5 dX6_intern_46 rfl rfl ?_
  refine z_icmp_geT hC (pc := 47) 78 dX6_intern_47 (by decide) (by decide) ?_
  refine z_aload_n hC (pc := 78) 3 dX6_intern_78 rfl rfl ?_
  refine z_iload_n hC (pc := 79) 4 dX6_intern_79 rfl rfl ?_
  refine z_iload_n hC (pc := 80) 5 dX6_intern_80 rfl rfl ?_
  refine z_callSi hC (pc := 81) (k := 0) (n := 0) (As := [.ref (G.2.2 0), .int 0, .int 1]) (wr := [(h3, .inl (G.2.1 0, 16102, .inl (fun _ => 0))), (h4, .inl (G.2.1 0, 16102, .inl (fun _ => 0))), (h0, .inr (6, [.ref h2, .ref h3, .ref h4, .ref h1, .int 0, .int 0])), (h1, .inl (G.2.1 0, 8192, .inl (fun _ => (-1)))), (h2, .inl (G.2.1 1, 32100, .inl (upd (fun _ => 0) 0 105)))]) (kX6_hash_119 l G) dmX6_hash [] [0, 1, 2, 3, 4] rfl rfl rfl dX6_intern_81 zw962 rfl rfl (Nat.le_of_ble_eq_true rfl) (Nat.le_of_ble_eq_true rfl) (Nat.le_of_ble_eq_true rfl) (Nat.le_of_ble_eq_true rfl) (Nat.le_of_ble_eq_true rfl) (fun r w hp => ?_)
  obtain ⟨rfl, rfl⟩ := hp
  refine z_istore hC (pc := 84) (lv' := [(5, .int 136), (4, .int (-1)), (0, .ref h0), (1, .ref (G.2.2 0)), (2, .int 0), (3, .int 1)]) dX6_intern_84 (by decide) rfl ?_
  refine z_aload_n hC (pc := 86) 2 dX6_intern_86 rfl rfl ?_
  refine z_get hC (pc := 87) zf6 2 1 dX6_intern_87 zw178 rfl rfl (kk := ?_)
  refine z_aload_n hC (pc := 90) 2 dX6_intern_90 rfl rfl ?_
  refine z_get hC (pc := 91) zf6 2 4 dX6_intern_91 zw184 rfl rfl (kk := ?_)
  refine z_aload_n hC (pc := 94) 2 dX6_intern_94 rfl rfl ?_
  refine z_get hC (pc := 95) zf6 2 5 dX6_intern_95 zw186 rfl rfl (kk := ?_)
  refine z_callSNv hC (pc := 98) (k := 0) (n := 0) (As := [.ref h3, .int 0, .int 0]) (wr := [(h4, .inl (G.2.1 0, 16102, .inl (fun _ => 0))), (h0, .inr (6, [.ref h2, .ref h3, .ref h4, .ref h1, .int 0, .int 0])), (h1, .inl (G.2.1 0, 8192, .inl (fun _ => (-1)))), (h2, .inl (G.2.1 1, 32100, .inl (upd (fun _ => 0) 0 105)))]) (kX12_set_124 l G h3) dmX12_set [0] [1, 2, 3, 4] rfl rfl rfl dX6_intern_98 zw973 rfl rfl (Nat.le_of_ble_eq_true rfl) (Nat.le_of_ble_eq_true rfl) (Nat.le_of_ble_eq_true rfl) (Nat.le_of_ble_eq_true rfl) (Nat.le_of_ble_eq_true rfl) (fun w hp => ?_)
  obtain rfl := hp
  refine z_aload_n hC (pc := 101) 2 dX6_intern_101 rfl rfl ?_
  refine z_dup hC (pc := 102) dX6_intern_102 rfl ?_
  refine z_get hC (pc := 103) zf6 1 5 dX6_intern_103 zw186 rfl rfl (kk := ?_)
  refine z_iload_n hC (pc := 106) 5 dX6_intern_106 rfl rfl ?_
  refine z_iadd hC (pc := 107) (v := 1) dX6_intern_107 (by decide) ?_
  refine z_put hC (pc := 108) zf6 1 5 [(h4, .inl (G.2.1 0, 16102, .inl (fun _ => 0))), (h0, .inr (6, [.ref h2, .ref h3, .ref h4, .ref h1, .int 0, .int 1])), (h1, .inl (G.2.1 0, 8192, .inl (fun _ => (-1)))), (h2, .inl (G.2.1 1, 32100, .inl (upd (fun _ => 0) 0 105))), (h3, .inl (G.2.1 0, 16102, .inl (upd (fun _ => 0) 0 0)))] dX6_intern_108 zw186 rfl rfl rfl rfl rfl (kk := ?_)
  refine z_aload_n hC (pc := 111) 2 dX6_intern_111 rfl rfl ?_
  refine z_get hC (pc := 112) zf6 1 1 dX6_intern_112 zw178 rfl rfl (kk := ?_)
  refine z_aload_n hC (pc := 115) 2 dX6_intern_115 rfl rfl ?_
  refine z_get hC (pc := 116) zf6 1 4 dX6_intern_116 zw184 rfl rfl (kk := ?_)
  refine z_iconst hC (pc := 119) (v := 1) dX6_intern_119 (by decide) ?_
  refine z_iadd hC (pc := 120) (v := 1) dX6_intern_120 (by decide) ?_
  refine z_aload_n hC (pc := 121) 2 dX6_intern_121 rfl rfl ?_
  refine z_get hC (pc := 122) zf6 1 5 dX6_intern_122 zw186 rfl rfl (kk := ?_)
  refine z_callSNv hC (pc := 125) (k := 0) (n := 0) (As := [.ref h3, .int 1, .int 1]) (wr := [(h4, .inl (G.2.1 0, 16102, .inl (fun _ => 0))), (h0, .inr (6, [.ref h2, .ref h3, .ref h4, .ref h1, .int 0, .int 1])), (h1, .inl (G.2.1 0, 8192, .inl (fun _ => (-1)))), (h2, .inl (G.2.1 1, 32100, .inl (upd (fun _ => 0) 0 105)))]) (kX12_set_125 l G h3) dmX12_set [4] [0, 1, 2, 3] rfl rfl rfl dX6_intern_125 zw973 rfl rfl (Nat.le_of_ble_eq_true rfl) (Nat.le_of_ble_eq_true rfl) (Nat.le_of_ble_eq_true rfl) (Nat.le_of_ble_eq_true rfl) (Nat.le_of_ble_eq_true rfl) (fun w hp => ?_)
  obtain rfl := hp
  refine z_aload_n hC (pc := 128) 2 dX6_intern_128 rfl rfl ?_
  refine z_get hC (pc := 129) zf6 1 2 dX6_intern_129 zw182 rfl rfl (kk := ?_)
  refine z_aload_n hC (pc := 132) 2 dX6_intern_132 rfl rfl ?_
  refine z_get hC (pc := 133) zf6 1 4 dX6_intern_133 zw184 rfl rfl (kk := ?_)
  refine z_aload_n hC (pc := 136) 2 dX6_intern_136 rfl rfl ?_
  refine z_get hC (pc := 137) zf6 1 3 dX6_intern_137 zw183 rfl rfl (kk := ?_)
  refine z_iload hC (pc := 140) 0 dX6_intern_140 rfl ?_
  refine z_callSNi hC (pc := 142) (k := 0) (n := 0) (As := [.ref h1, .int 136]) (wr := [(h4, .inl (G.2.1 0, 16102, .inl (fun _ => 0))), (h0, .inr (6, [.ref h2, .ref h3, .ref h4, .ref h1, .int 0, .int 1])), (h2, .inl (G.2.1 1, 32100, .inl (upd (fun _ => 0) 0 105))), (h3, .inl (G.2.1 0, 16102, .inl (upd (upd (fun _ => 0) 0 0) 1 1)))]) (kX12_get_120 l G h1) dmX12_get [2] [0, 1, 3, 4] rfl rfl rfl dX6_intern_142 zw965 rfl rfl (Nat.le_of_ble_eq_true rfl) (Nat.le_of_ble_eq_true rfl) (Nat.le_of_ble_eq_true rfl) (Nat.le_of_ble_eq_true rfl) (Nat.le_of_ble_eq_true rfl) (fun r w hp => ?_)
  obtain ⟨rfl, rfl⟩ := hp
  refine z_callSNv hC (pc := 145) (k := 0) (n := 0) (As := [.ref h4, .int 0, .int (-1)]) (wr := [(h0, .inr (6, [.ref h2, .ref h3, .ref h4, .ref h1, .int 0, .int 1])), (h2, .inl (G.2.1 1, 32100, .inl (upd (fun _ => 0) 0 105))), (h3, .inl (G.2.1 0, 16102, .inl (upd (upd (fun _ => 0) 0 0) 1 1))), (h1, .inl (G.2.1 0, 8192, .inl (fun _ => (-1))))]) (kX12_set_126 l G h4) dmX12_set [0] [1, 2, 3, 4] rfl rfl rfl dX6_intern_145 zw973 rfl rfl (Nat.le_of_ble_eq_true rfl) (Nat.le_of_ble_eq_true rfl) (Nat.le_of_ble_eq_true rfl) (Nat.le_of_ble_eq_true rfl) (Nat.le_of_ble_eq_true rfl) (fun w hp => ?_)
  obtain rfl := hp
  refine z_aload_n hC (pc := 148) 2 dX6_intern_148 rfl rfl ?_
  refine z_get hC (pc := 149) zf6 0 3 dX6_intern_149 zw183 rfl rfl (kk := ?_)
  refine z_iload hC (pc := 152) 0 dX6_intern_152 rfl ?_
  refine z_aload_n hC (pc := 154) 2 dX6_intern_154 rfl rfl ?_
  refine z_get hC (pc := 155) zf6 0 4 dX6_intern_155 zw184 rfl rfl (kk := ?_)
  refine z_callSNv hC (pc := 158) (k := 0) (n := 0) (As := [.ref h1, .int 136, .int 0]) (wr := [(h0, .inr (6, [.ref h2, .ref h3, .ref h4, .ref h1, .int 0, .int 1])), (h2, .inl (G.2.1 1, 32100, .inl (upd (fun _ => 0) 0 105))), (h3, .inl (G.2.1 0, 16102, .inl (upd (upd (fun _ => 0) 0 0) 1 1))), (h4, .inl (G.2.1 0, 16102, .inl (upd (fun _ => 0) 0 (-1))))]) (kX12_set_127 l G h1) dmX12_set [3] [0, 1, 2, 4] rfl rfl rfl dX6_intern_158 zw973 rfl rfl (Nat.le_of_ble_eq_true rfl) (Nat.le_of_ble_eq_true rfl) (Nat.le_of_ble_eq_true rfl) (Nat.le_of_ble_eq_true rfl) (Nat.le_of_ble_eq_true rfl) (fun w hp => ?_)
  obtain rfl := hp
  refine z_aload_n hC (pc := 161) 2 dX6_intern_161 rfl rfl ?_
  refine z_dup hC (pc := 162) dX6_intern_162 rfl ?_
  refine z_get hC (pc := 163) zf6 0 4 dX6_intern_163 zw184 rfl rfl (kk := ?_)
  refine z_iconst hC (pc := 166) (v := 1) dX6_intern_166 (by decide) ?_
  refine z_iadd hC (pc := 167) (v := 1) dX6_intern_167 (by decide) ?_
  refine z_put hC (pc := 168) zf6 0 4 [(h0, .inr (6, [.ref h2, .ref h3, .ref h4, .ref h1, .int 1, .int 1])), (h2, .inl (G.2.1 1, 32100, .inl (upd (fun _ => 0) 0 105))), (h3, .inl (G.2.1 0, 16102, .inl (upd (upd (fun _ => 0) 0 0) 1 1))), (h4, .inl (G.2.1 0, 16102, .inl (upd (fun _ => 0) 0 (-1)))), (h1, .inl (G.2.1 0, 8192, .inl (upd (fun _ => (-1)) 136 0)))] dX6_intern_168 zw184 rfl rfl rfl rfl rfl (kk := ?_)
  refine z_aload_n hC (pc := 171) 2 dX6_intern_171 rfl rfl ?_
  refine z_get hC (pc := 172) zf6 0 4 dX6_intern_172 zw184 rfl rfl (kk := ?_)
  refine z_iconst hC (pc := 175) (v := 1) dX6_intern_175 (by decide) ?_
  refine z_isub hC (pc := 176) (v := 0) dX6_intern_176 (by decide) ?_
  exact hR _ _ _ _ _ _ dX6_intern_177 rfl (Nat.le_of_ble_eq_true rfl) (Nat.le_of_ble_eq_true rfl) ⟨rfl, rfl⟩
set_option maxRecDepth 100000 in
theorem kX6_hash_129 (l : Launch) (G : zG) : zMi l G yX6_hash cX6_hash 5 .int 0 0 0 0 [.ref (G.2.2 0), .int 0, .int 2] [] (fun r w => r = 5225 ∧ w = []) := by
  refine zMi.intro (by decide) (Nat.le_of_ble_eq_true rfl) (fun X hC hR => ?_)
  refine z_iload_n hC (pc := 0) 2 dX6_hash_0 rfl rfl ?_
  refine z_istore_n hC (pc := 1) (lv' := [(3, .int 2), (0, .ref (G.2.2 0)), (1, .int 0), (2, .int 2)]) dX6_hash_1 rfl (by decide) rfl ?_
  refine z_iload_n hC (pc := 2) 2 dX6_hash_2 rfl rfl ?_
  refine z_istore hC (pc := 3) (lv' := [(4, .int 0), (3, .int 2), (0, .ref (G.2.2 0)), (1, .int 0), (2, .int 2)]) dX6_hash_3 (by decide) rfl ?_
  refine z_iload hC (pc := 5) 0 dX6_hash_5 rfl ?_
  refine z_iload_n hC (pc := 7) 3 dX6_hash_7 rfl rfl ?_
  refine z_iload_n hC (pc := 8) 4 dX6_hash_8 rfl rfl ?_
  refine z_iadd hC (pc := 9) (v := 2) dX6_hash_9 (by decide) ?_
  refine z_icmp_geF hC (pc := 10) 41 dX6_hash_10 (by decide) (by decide) ?_
  refine z_iload hC (pc := 13) 0 dX6_hash_13 rfl ?_
  refine z_if_ltF hC (pc := 15) 41 dX6_hash_15 (by decide) (by decide) ?_
  refine z_iload hC (pc := 18) 0 dX6_hash_18 rfl ?_
  refine z_aload_n hC (pc := 20) 2 dX6_hash_20 rfl rfl ?_
  refine z_talen hC (pc := 21) (v := 2) dX6_hash_21 rfl ?_
  refine z_icmp_geF hC (pc := 22) 41 dX6_hash_22 (by decide) (by decide) ?_
  refine z_iload_n hC (pc := 25) 1 dX6_hash_25 rfl rfl ?_
  refine z_bipush hC (pc := 26) (v := 31) dX6_hash_26 (by decide) ?_
  refine z_imul hC (pc := 28) (v := 62) dX6_hash_28 (by decide) ?_
  refine z_aload_n hC (pc := 29) 2 dX6_hash_29 rfl rfl ?_
  refine z_iload hC (pc := 30) 0 dX6_hash_30 rfl ?_
  refine z_tbald hC (pc := 32) (v := 105) dX6_hash_32 (zvi rfl) rfl ?_
  refine z_iadd hC (pc := 33) (v := 167) dX6_hash_33 (by decide) ?_
  refine z_istore_n hC (pc := 34) (lv' := [(3, .int 167), (4, .int 0), (0, .ref (G.2.2 0)), (1, .int 0), (2, .int 2)]) dX6_hash_34 rfl (by decide) rfl ?_
  refine z_iinc hC (pc := 35) (v := 1) (lv' := [(4, .int 1), (3, .int 167), (0, .ref (G.2.2 0)), (1, .int 0), (2, .int 2)]) 1 dX6_hash_35 rfl (by decide) (by decide) rfl ?_
  refine z_goto hC (pc := 38) 5 dX6_hash_38 (by decide) ?_
  refine z_iload hC (pc := 5) 0 dX6_hash_5 rfl ?_
  refine z_iload_n hC (pc := 7) 3 dX6_hash_7 rfl rfl ?_
  refine z_iload_n hC (pc := 8) 4 dX6_hash_8 rfl rfl ?_
  refine z_iadd hC (pc := 9) (v := 2) dX6_hash_9 (by decide) ?_
  refine z_icmp_geF hC (pc := 10) 41 dX6_hash_10 (by decide) (by decide) ?_
  refine z_iload hC (pc := 13) 0 dX6_hash_13 rfl ?_
  refine z_if_ltF hC (pc := 15) 41 dX6_hash_15 (by decide) (by decide) ?_
  refine z_iload hC (pc := 18) 0 dX6_hash_18 rfl ?_
  refine z_aload_n hC (pc := 20) 2 dX6_hash_20 rfl rfl ?_
  refine z_talen hC (pc := 21) (v := 2) dX6_hash_21 rfl ?_
  refine z_icmp_geF hC (pc := 22) 41 dX6_hash_22 (by decide) (by decide) ?_
  refine z_iload_n hC (pc := 25) 1 dX6_hash_25 rfl rfl ?_
  refine z_bipush hC (pc := 26) (v := 31) dX6_hash_26 (by decide) ?_
  refine z_imul hC (pc := 28) (v := 5177) dX6_hash_28 (by decide) ?_
  refine z_aload_n hC (pc := 29) 2 dX6_hash_29 rfl rfl ?_
  refine z_iload hC (pc := 30) 0 dX6_hash_30 rfl ?_
  refine z_tbald hC (pc := 32) (v := 48) dX6_hash_32 (zvi rfl) rfl ?_
  refine z_iadd hC (pc := 33) (v := 5225) dX6_hash_33 (by decide) ?_
  refine z_istore_n hC (pc := 34) (lv' := [(3, .int 5225), (4, .int 1), (0, .ref (G.2.2 0)), (1, .int 0), (2, .int 2)]) dX6_hash_34 rfl (by decide) rfl ?_
  refine z_iinc hC (pc := 35) (v := 2) (lv' := [(4, .int 2), (3, .int 5225), (0, .ref (G.2.2 0)), (1, .int 0), (2, .int 2)]) 1 dX6_hash_35 rfl (by decide) (by decide) rfl ?_
  refine z_goto hC (pc := 38) 5 dX6_hash_38 (by decide) ?_
  refine z_iload hC (pc := 5) 0 dX6_hash_5 rfl ?_
  refine z_iload_n hC (pc := 7) 3 dX6_hash_7 rfl rfl ?_
  refine z_iload_n hC (pc := 8) 4 dX6_hash_8 rfl rfl ?_
  refine z_iadd hC (pc := 9) (v := 2) dX6_hash_9 (by decide) ?_
  refine z_icmp_geT hC (pc := 10) 41 dX6_hash_10 (by decide) (by decide) ?_
  refine z_iload_n hC (pc := 41) 1 dX6_hash_41 rfl rfl ?_
  refine z_iload_n hC (pc := 42) 1 dX6_hash_42 rfl rfl ?_
  refine z_bipush hC (pc := 43) (v := 13) dX6_hash_43 (by decide) ?_
  refine z_iushr hC (pc := 45) (v := 0) dX6_hash_45 (by decide) ?_
  refine z_ixor hC (pc := 46) (v := 5225) dX6_hash_46 (by decide) ?_
  refine z_sipush hC (pc := 47) (v := 8191) dX6_hash_47 (by decide) ?_
  refine z_iand hC (pc := 50) (v := 5225) dX6_hash_50 (by decide) ?_
  exact hR _ _ _ _ _ _ dX6_hash_51 rfl (Nat.le_of_ble_eq_true rfl) (Nat.le_of_ble_eq_true rfl) ⟨rfl, rfl⟩
set_option maxRecDepth 100000 in
theorem kX12_get_130 (l : Launch) (G : zG) (h0 : Nat) : zMi l G yX12_get cX12_get 2 .int 0 0 0 0 [.ref h0, .int 5225] [(h0, .inl (G.2.1 0, 8192, .inl (upd (fun _ => (-1)) 136 0)))] (fun r w => r = (-1) ∧ w = [(h0, .inl (G.2.1 0, 8192, .inl (upd (fun _ => (-1)) 136 0)))]) := by
  refine zMi.intro (by decide) (Nat.le_of_ble_eq_true rfl) (fun X hC hR => ?_)
  refine z_iload_n hC (pc := 0) 1 dX12_get_0 rfl rfl ?_
  refine z_if_ltF hC (pc := 1) 16 dX12_get_1 (by decide) (by decide) ?_
  refine z_iload_n hC (pc := 4) 1 dX12_get_4 rfl rfl ?_
  refine z_aload_n hC (pc := 5) 0 dX12_get_5 rfl rfl ?_
  refine z_alen0 hC (pc := 6) (v := 8192) 0 dX12_get_6 rfl rfl ?_
  refine z_icmp_geF hC (pc := 7) 16 dX12_get_7 (by decide) (by decide) ?_
  refine z_aload_n hC (pc := 10) 0 dX12_get_10 rfl rfl ?_
  refine z_iload_n hC (pc := 11) 1 dX12_get_11 rfl rfl ?_
  refine z_iald hC (pc := 12) (v := (-1)) 0 dX12_get_12 rfl (zvi rfl) rfl ?_
  refine z_goto hC (pc := 13) 17 dX12_get_13 (by decide) ?_
  exact hR _ _ _ _ _ _ dX12_get_17 rfl (Nat.le_of_ble_eq_true rfl) (Nat.le_of_ble_eq_true rfl) ⟨rfl, rfl⟩
set_option maxRecDepth 100000 in
theorem kX6_find_131 (l : Launch) (G : zG) (h0 : Nat) (h1 : Nat) (g2 : Nat) (g3 : Nat) (g4 : Nat) : zMi l G yX6_find cX6_find 6 .int 1 24 0 0 [.ref h0, .ref (G.2.2 0), .int 0, .int 2] [(h0, .inr (6, [.ref g2, .ref g3, .ref g4, .ref h1, .int 1, .int 1])), (h1, .inl (G.2.1 0, 8192, .inl (upd (fun _ => (-1)) 136 0)))] (fun r w => r = (-1) ∧ w = [(h0, .inr (6, [.ref g2, .ref g3, .ref g4, .ref h1, .int 1, .int 1])), (h1, .inl (G.2.1 0, 8192, .inl (upd (fun _ => (-1)) 136 0)))]) := by
  refine zMi.intro (by decide) (Nat.le_of_ble_eq_true rfl) (fun X hC hR => ?_)
  refine z_aload_n hC (pc := 0) 0 dX6_find_0 rfl rfl ?_
  refine z_get hC (pc := 1) zf6 0 3 dX6_find_1 zw183 rfl rfl (kk := ?_)
  refine z_aload_n hC (pc := 4) 1 dX6_find_4 rfl rfl ?_
  refine z_iload_n hC (pc := 5) 2 dX6_find_5 rfl rfl ?_
  refine z_iload_n hC (pc := 6) 3 dX6_find_6 rfl rfl ?_
  refine z_callSi hC (pc := 7) (k := 0) (n := 0) (As := [.ref (G.2.2 0), .int 0, .int 2]) (wr := [(h0, .inr (6, [.ref g2, .ref g3, .ref g4, .ref h1, .int 1, .int 1])), (h1, .inl (G.2.1 0, 8192, .inl (upd (fun _ => (-1)) 136 0)))]) (kX6_hash_129 l G) dmX6_hash [] [0, 1] rfl rfl rfl dX6_find_7 zw962 rfl rfl (Nat.le_of_ble_eq_true rfl) (Nat.le_of_ble_eq_true rfl) (Nat.le_of_ble_eq_true rfl) (Nat.le_of_ble_eq_true rfl) (Nat.le_of_ble_eq_true rfl) (fun r w hp => ?_)
  obtain ⟨rfl, rfl⟩ := hp
  refine z_callSNi hC (pc := 10) (k := 0) (n := 0) (As := [.ref h1, .int 5225]) (wr := [(h0, .inr (6, [.ref g2, .ref g3, .ref g4, .ref h1, .int 1, .int 1]))]) (kX12_get_130 l G h1) dmX12_get [1] [0] rfl rfl rfl dX6_find_10 zw965 rfl rfl (Nat.le_of_ble_eq_true rfl) (Nat.le_of_ble_eq_true rfl) (Nat.le_of_ble_eq_true rfl) (Nat.le_of_ble_eq_true rfl) (Nat.le_of_ble_eq_true rfl) (fun r w hp => ?_)
  obtain ⟨rfl, rfl⟩ := hp
  refine z_istore hC (pc := 13) (lv' := [(4, .int (-1)), (0, .ref h0), (1, .ref (G.2.2 0)), (2, .int 0), (3, .int 2)]) dX6_find_13 (by decide) rfl ?_
  refine z_iconst hC (pc := 15) (v := 0) dX6_find_15 (by decide) ?_
  refine z_istore hC (pc := 16) (lv' := [(5, .int 0), (4, .int (-1)), (0, .ref h0), (1, .ref (G.2.2 0)), (2, .int 0), (3, .int 2)]) dX6_find_16 (by decide) rfl ?_
  refine z_iload hC (pc := 18) 0 dX6_find_18 rfl ?_
  refine z_aload_n hC (pc := 20) 2 dX6_find_20 rfl rfl ?_
  refine z_get hC (pc := 21) zf6 0 4 dX6_find_21 zw184 rfl rfl (kk := ?_)
  refine z_icmp_geF hC (pc := 24) 84 dX6_find_24 (by decide) (by decide) ?_
  refine z_iload hC (pc := 27) 1 dX6_find_27 rfl ?_
  refine z_if_ltT hC (pc := 29) 84 dX6_find_29 (by decide) (by decide) ?_
  refine z_iconst hC (pc := 84) (v := (-1)) dX6_find_84 (by decide) ?_
  exact hR _ _ _ _ _ _ dX6_find_85 rfl (Nat.le_of_ble_eq_true rfl) (Nat.le_of_ble_eq_true rfl) ⟨rfl, rfl⟩
set_option maxRecDepth 100000 in
theorem kX12_setByte_132 (l : Launch) (G : zG) (h0 : Nat) : zMv l G yX12_setByte cX12_setByte 3 0 0 0 0 [.ref h0, .int 1, .int 105] [(h0, .inl (G.2.1 1, 32100, .inl (upd (fun _ => 0) 0 105)))] (fun w => w = [(h0, .inl (G.2.1 1, 32100, .inl (upd (upd (fun _ => 0) 0 105) 1 105)))]) := by
  refine zMv.intro (by decide) (Nat.le_of_ble_eq_true rfl) (fun X hC hR => ?_)
  refine z_iload_n hC (pc := 0) 1 dX12_setByte_0 rfl rfl ?_
  refine z_if_ltF hC (pc := 1) 15 dX12_setByte_1 (by decide) (by decide) ?_
  refine z_iload_n hC (pc := 4) 1 dX12_setByte_4 rfl rfl ?_
  refine z_aload_n hC (pc := 5) 0 dX12_setByte_5 rfl rfl ?_
  refine z_alen1 hC (pc := 6) (v := 32100) 0 dX12_setByte_6 rfl rfl ?_
  refine z_icmp_geF hC (pc := 7) 15 dX12_setByte_7 (by decide) (by decide) ?_
  refine z_aload_n hC (pc := 10) 0 dX12_setByte_10 rfl rfl ?_
  refine z_iload_n hC (pc := 11) 1 dX12_setByte_11 rfl rfl ?_
  refine z_iload_n hC (pc := 12) 2 dX12_setByte_12 rfl rfl ?_
  refine z_i2b hC (pc := 13) (v := 105) dX12_setByte_13 (by decide) ?_
  refine z_bast hC (pc := 14) (f' := (upd (upd (fun _ => 0) 0 105) 1 105)) 0 [(h0, .inl (G.2.1 1, 32100, .inl (upd (upd (fun _ => 0) 0 105) 1 105)))] dX12_setByte_14 rfl (zvi rfl) rfl rfl ?_
  exact hR _ _ _ _ _ dX12_setByte_15 (Nat.le_of_ble_eq_true rfl) (Nat.le_of_ble_eq_true rfl) rfl
set_option maxRecDepth 100000 in
theorem kX12_getByte_133 (l : Launch) (G : zG) : zMi l G yX12_getByte cX12_getByte 2 .int 0 0 0 0 [.ref (G.2.2 0), .int 1] [] (fun r w => r = 48 ∧ w = []) := by
  refine zMi.intro (by decide) (Nat.le_of_ble_eq_true rfl) (fun X hC hR => ?_)
  refine z_iload_n hC (pc := 0) 1 dX12_getByte_0 rfl rfl ?_
  refine z_if_ltF hC (pc := 1) 20 dX12_getByte_1 (by decide) (by decide) ?_
  refine z_iload_n hC (pc := 4) 1 dX12_getByte_4 rfl rfl ?_
  refine z_aload_n hC (pc := 5) 0 dX12_getByte_5 rfl rfl ?_
  refine z_talen hC (pc := 6) (v := 2) dX12_getByte_6 rfl ?_
  refine z_icmp_geF hC (pc := 7) 20 dX12_getByte_7 (by decide) (by decide) ?_
  refine z_aload_n hC (pc := 10) 0 dX12_getByte_10 rfl rfl ?_
  refine z_iload_n hC (pc := 11) 1 dX12_getByte_11 rfl rfl ?_
  refine z_tbald hC (pc := 12) (v := 48) dX12_getByte_12 (zvi rfl) rfl ?_
  refine z_sipush hC (pc := 13) (v := 255) dX12_getByte_13 (by decide) ?_
  refine z_iand hC (pc := 16) (v := 48) dX12_getByte_16 (by decide) ?_
  refine z_goto hC (pc := 17) 21 dX12_getByte_17 (by decide) ?_
  exact hR _ _ _ _ _ _ dX12_getByte_21 rfl (Nat.le_of_ble_eq_true rfl) (Nat.le_of_ble_eq_true rfl) ⟨rfl, rfl⟩
set_option maxRecDepth 100000 in
theorem kX12_setByte_134 (l : Launch) (G : zG) (h0 : Nat) : zMv l G yX12_setByte cX12_setByte 3 0 0 0 0 [.ref h0, .int 2, .int 48] [(h0, .inl (G.2.1 1, 32100, .inl (upd (upd (fun _ => 0) 0 105) 1 105)))] (fun w => w = [(h0, .inl (G.2.1 1, 32100, .inl (upd (upd (upd (fun _ => 0) 0 105) 1 105) 2 48)))]) := by
  refine zMv.intro (by decide) (Nat.le_of_ble_eq_true rfl) (fun X hC hR => ?_)
  refine z_iload_n hC (pc := 0) 1 dX12_setByte_0 rfl rfl ?_
  refine z_if_ltF hC (pc := 1) 15 dX12_setByte_1 (by decide) (by decide) ?_
  refine z_iload_n hC (pc := 4) 1 dX12_setByte_4 rfl rfl ?_
  refine z_aload_n hC (pc := 5) 0 dX12_setByte_5 rfl rfl ?_
  refine z_alen1 hC (pc := 6) (v := 32100) 0 dX12_setByte_6 rfl rfl ?_
  refine z_icmp_geF hC (pc := 7) 15 dX12_setByte_7 (by decide) (by decide) ?_
  refine z_aload_n hC (pc := 10) 0 dX12_setByte_10 rfl rfl ?_
  refine z_iload_n hC (pc := 11) 1 dX12_setByte_11 rfl rfl ?_
  refine z_iload_n hC (pc := 12) 2 dX12_setByte_12 rfl rfl ?_
  refine z_i2b hC (pc := 13) (v := 48) dX12_setByte_13 (by decide) ?_
  refine z_bast hC (pc := 14) (f' := (upd (upd (upd (fun _ => 0) 0 105) 1 105) 2 48)) 0 [(h0, .inl (G.2.1 1, 32100, .inl (upd (upd (upd (fun _ => 0) 0 105) 1 105) 2 48)))] dX12_setByte_14 rfl (zvi rfl) rfl rfl ?_
  exact hR _ _ _ _ _ dX12_setByte_15 (Nat.le_of_ble_eq_true rfl) (Nat.le_of_ble_eq_true rfl) rfl
set_option maxRecDepth 100000 in
theorem kX12_set_135 (l : Launch) (G : zG) (h0 : Nat) : zMv l G yX12_set cX12_set 3 0 0 0 0 [.ref h0, .int 1, .int 1] [(h0, .inl (G.2.1 0, 16102, .inl (upd (upd (fun _ => 0) 0 0) 1 1)))] (fun w => w = [(h0, .inl (G.2.1 0, 16102, .inl (upd (upd (upd (fun _ => 0) 0 0) 1 1) 1 1)))]) := by
  refine zMv.intro (by decide) (Nat.le_of_ble_eq_true rfl) (fun X hC hR => ?_)
  refine z_iload_n hC (pc := 0) 1 dX12_set_0 rfl rfl ?_
  refine z_if_ltF hC (pc := 1) 14 dX12_set_1 (by decide) (by decide) ?_
  refine z_iload_n hC (pc := 4) 1 dX12_set_4 rfl rfl ?_
  refine z_aload_n hC (pc := 5) 0 dX12_set_5 rfl rfl ?_
  refine z_alen0 hC (pc := 6) (v := 16102) 0 dX12_set_6 rfl rfl ?_
  refine z_icmp_geF hC (pc := 7) 14 dX12_set_7 (by decide) (by decide) ?_
  refine z_aload_n hC (pc := 10) 0 dX12_set_10 rfl rfl ?_
  refine z_iload_n hC (pc := 11) 1 dX12_set_11 rfl rfl ?_
  refine z_iload_n hC (pc := 12) 2 dX12_set_12 rfl rfl ?_
  refine z_iast hC (pc := 13) (f' := (upd (upd (upd (fun _ => 0) 0 0) 1 1) 1 1)) 0 [(h0, .inl (G.2.1 0, 16102, .inl (upd (upd (upd (fun _ => 0) 0 0) 1 1) 1 1)))] dX12_set_13 rfl (zvi rfl) rfl rfl ?_
  exact hR _ _ _ _ _ dX12_set_14 (Nat.le_of_ble_eq_true rfl) (Nat.le_of_ble_eq_true rfl) rfl
set_option maxRecDepth 100000 in
theorem kX12_set_136 (l : Launch) (G : zG) (h0 : Nat) : zMv l G yX12_set cX12_set 3 0 0 0 0 [.ref h0, .int 2, .int 3] [(h0, .inl (G.2.1 0, 16102, .inl (upd (upd (upd (fun _ => 0) 0 0) 1 1) 1 1)))] (fun w => w = [(h0, .inl (G.2.1 0, 16102, .inl (upd (upd (upd (upd (fun _ => 0) 0 0) 1 1) 1 1) 2 3)))]) := by
  refine zMv.intro (by decide) (Nat.le_of_ble_eq_true rfl) (fun X hC hR => ?_)
  refine z_iload_n hC (pc := 0) 1 dX12_set_0 rfl rfl ?_
  refine z_if_ltF hC (pc := 1) 14 dX12_set_1 (by decide) (by decide) ?_
  refine z_iload_n hC (pc := 4) 1 dX12_set_4 rfl rfl ?_
  refine z_aload_n hC (pc := 5) 0 dX12_set_5 rfl rfl ?_
  refine z_alen0 hC (pc := 6) (v := 16102) 0 dX12_set_6 rfl rfl ?_
  refine z_icmp_geF hC (pc := 7) 14 dX12_set_7 (by decide) (by decide) ?_
  refine z_aload_n hC (pc := 10) 0 dX12_set_10 rfl rfl ?_
  refine z_iload_n hC (pc := 11) 1 dX12_set_11 rfl rfl ?_
  refine z_iload_n hC (pc := 12) 2 dX12_set_12 rfl rfl ?_
  refine z_iast hC (pc := 13) (f' := (upd (upd (upd (upd (fun _ => 0) 0 0) 1 1) 1 1) 2 3)) 0 [(h0, .inl (G.2.1 0, 16102, .inl (upd (upd (upd (upd (fun _ => 0) 0 0) 1 1) 1 1) 2 3)))] dX12_set_13 rfl (zvi rfl) rfl rfl ?_
  exact hR _ _ _ _ _ dX12_set_14 (Nat.le_of_ble_eq_true rfl) (Nat.le_of_ble_eq_true rfl) rfl
set_option maxRecDepth 100000 in
theorem kX12_set_137 (l : Launch) (G : zG) (h0 : Nat) : zMv l G yX12_set cX12_set 3 0 0 0 0 [.ref h0, .int 1, .int (-1)] [(h0, .inl (G.2.1 0, 16102, .inl (upd (fun _ => 0) 0 (-1))))] (fun w => w = [(h0, .inl (G.2.1 0, 16102, .inl (upd (upd (fun _ => 0) 0 (-1)) 1 (-1))))]) := by
  refine zMv.intro (by decide) (Nat.le_of_ble_eq_true rfl) (fun X hC hR => ?_)
  refine z_iload_n hC (pc := 0) 1 dX12_set_0 rfl rfl ?_
  refine z_if_ltF hC (pc := 1) 14 dX12_set_1 (by decide) (by decide) ?_
  refine z_iload_n hC (pc := 4) 1 dX12_set_4 rfl rfl ?_
  refine z_aload_n hC (pc := 5) 0 dX12_set_5 rfl rfl ?_
  refine z_alen0 hC (pc := 6) (v := 16102) 0 dX12_set_6 rfl rfl ?_
  refine z_icmp_geF hC (pc := 7) 14 dX12_set_7 (by decide) (by decide) ?_
  refine z_aload_n hC (pc := 10) 0 dX12_set_10 rfl rfl ?_
  refine z_iload_n hC (pc := 11) 1 dX12_set_11 rfl rfl ?_
  refine z_iload_n hC (pc := 12) 2 dX12_set_12 rfl rfl ?_
  refine z_iast hC (pc := 13) (f' := (upd (upd (fun _ => 0) 0 (-1)) 1 (-1))) 0 [(h0, .inl (G.2.1 0, 16102, .inl (upd (upd (fun _ => 0) 0 (-1)) 1 (-1))))] dX12_set_13 rfl (zvi rfl) rfl rfl ?_
  exact hR _ _ _ _ _ dX12_set_14 (Nat.le_of_ble_eq_true rfl) (Nat.le_of_ble_eq_true rfl) rfl
set_option maxRecDepth 100000 in
theorem kX12_set_138 (l : Launch) (G : zG) (h0 : Nat) : zMv l G yX12_set cX12_set 3 0 0 0 0 [.ref h0, .int 5225, .int 1] [(h0, .inl (G.2.1 0, 8192, .inl (upd (fun _ => (-1)) 136 0)))] (fun w => w = [(h0, .inl (G.2.1 0, 8192, .inl (upd (upd (fun _ => (-1)) 136 0) 5225 1)))]) := by
  refine zMv.intro (by decide) (Nat.le_of_ble_eq_true rfl) (fun X hC hR => ?_)
  refine z_iload_n hC (pc := 0) 1 dX12_set_0 rfl rfl ?_
  refine z_if_ltF hC (pc := 1) 14 dX12_set_1 (by decide) (by decide) ?_
  refine z_iload_n hC (pc := 4) 1 dX12_set_4 rfl rfl ?_
  refine z_aload_n hC (pc := 5) 0 dX12_set_5 rfl rfl ?_
  refine z_alen0 hC (pc := 6) (v := 8192) 0 dX12_set_6 rfl rfl ?_
  refine z_icmp_geF hC (pc := 7) 14 dX12_set_7 (by decide) (by decide) ?_
  refine z_aload_n hC (pc := 10) 0 dX12_set_10 rfl rfl ?_
  refine z_iload_n hC (pc := 11) 1 dX12_set_11 rfl rfl ?_
  refine z_iload_n hC (pc := 12) 2 dX12_set_12 rfl rfl ?_
  refine z_iast hC (pc := 13) (f' := (upd (upd (fun _ => (-1)) 136 0) 5225 1)) 0 [(h0, .inl (G.2.1 0, 8192, .inl (upd (upd (fun _ => (-1)) 136 0) 5225 1)))] dX12_set_13 rfl (zvi rfl) rfl rfl ?_
  exact hR _ _ _ _ _ dX12_set_14 (Nat.le_of_ble_eq_true rfl) (Nat.le_of_ble_eq_true rfl) rfl
set_option maxRecDepth 100000 in
theorem kX6_intern_139 (l : Launch) (G : zG) (h0 : Nat) (h1 : Nat) (h2 : Nat) (h3 : Nat) (h4 : Nat) : zMi l G yX6_intern cX6_intern 6 .int 2 49 0 0 [.ref h0, .ref (G.2.2 0), .int 0, .int 2] [(h0, .inr (6, [.ref h2, .ref h3, .ref h4, .ref h1, .int 1, .int 1])), (h1, .inl (G.2.1 0, 8192, .inl (upd (fun _ => (-1)) 136 0))), (h2, .inl (G.2.1 1, 32100, .inl (upd (fun _ => 0) 0 105))), (h3, .inl (G.2.1 0, 16102, .inl (upd (upd (fun _ => 0) 0 0) 1 1))), (h4, .inl (G.2.1 0, 16102, .inl (upd (fun _ => 0) 0 (-1))))] (fun r w => r = 1 ∧ w = [(h0, .inr (6, [.ref h2, .ref h3, .ref h4, .ref h1, .int 2, .int 3])), (h2, .inl (G.2.1 1, 32100, .inl (upd (upd (upd (fun _ => 0) 0 105) 1 105) 2 48))), (h3, .inl (G.2.1 0, 16102, .inl (upd (upd (upd (upd (fun _ => 0) 0 0) 1 1) 1 1) 2 3))), (h4, .inl (G.2.1 0, 16102, .inl (upd (upd (fun _ => 0) 0 (-1)) 1 (-1)))), (h1, .inl (G.2.1 0, 8192, .inl (upd (upd (fun _ => (-1)) 136 0) 5225 1)))]) := by
  refine zMi.intro (by decide) (Nat.le_of_ble_eq_true rfl) (fun X hC hR => ?_)
  refine z_aload_n hC (pc := 0) 0 dX6_intern_0 rfl rfl ?_
  refine z_aload_n hC (pc := 1) 1 dX6_intern_1 rfl rfl ?_
  refine z_iload_n hC (pc := 2) 2 dX6_intern_2 rfl rfl ?_
  refine z_iload_n hC (pc := 3) 3 dX6_intern_3 rfl rfl ?_
  refine z_callVi hC (pc := 4) (k := 0) (n := 0) (As := [.ref (G.2.2 0), .int 0, .int 2]) (wr := [(h2, .inl (G.2.1 1, 32100, .inl (upd (fun _ => 0) 0 105))), (h3, .inl (G.2.1 0, 16102, .inl (upd (upd (fun _ => 0) 0 0) 1 1))), (h4, .inl (G.2.1 0, 16102, .inl (upd (fun _ => 0) 0 (-1))))]) (kX6_find_131 l G h0 h1 h2 h3 h4) dmX6_find zf6 0 rfl [0, 1] [2, 3, 4] rfl rfl rfl dX6_intern_4 zw958 rfl rfl (Nat.le_of_ble_eq_true rfl) (Nat.le_of_ble_eq_true rfl) (Nat.le_of_ble_eq_true rfl) (Nat.le_of_ble_eq_true rfl) (Nat.le_of_ble_eq_true rfl) (fun r w hp => ?_)
  obtain ⟨rfl, rfl⟩ := hp
  refine z_istore hC (pc := 7) (lv' := [(4, .int (-1)), (0, .ref h0), (1, .ref (G.2.2 0)), (2, .int 0), (3, .int 2)]) dX6_intern_7 (by decide) rfl ?_
  refine z_iload hC (pc := 9) 0 dX6_intern_9 rfl ?_
  refine z_if_geF hC (pc := 11) 38 dX6_intern_11 (by decide) (by decide) ?_
  refine z_aload_n hC (pc := 14) 1 dX6_intern_14 rfl rfl ?_
  refine z_get hC (pc := 15) zf6 3 4 dX6_intern_15 zw184 rfl rfl (kk := ?_)
  refine z_sipush hC (pc := 18) (v := 16100) dX6_intern_18 (by decide) ?_
  refine z_icmp_gtF hC (pc := 21) 38 dX6_intern_21 (by decide) (by decide) ?_
  refine z_aload_n hC (pc := 24) 1 dX6_intern_24 rfl rfl ?_
  refine z_get hC (pc := 25) zf6 3 5 dX6_intern_25 zw186 rfl rfl (kk := ?_)
  refine z_iload_n hC (pc := 28) 4 dX6_intern_28 rfl rfl ?_
  refine z_iadd hC (pc := 29) (v := 3) dX6_intern_29 (by decide) ?_
  refine z_aload_n hC (pc := 30) 1 dX6_intern_30 rfl rfl ?_
  refine z_get hC (pc := 31) zf6 3 0 dX6_intern_31 zw174 rfl rfl (kk := ?_)
  refine z_alen1 hC (pc := 34) (v := 32100) 0 dX6_intern_34 rfl rfl ?_
  refine z_icmp_leT hC (pc := 35) 41 dX6_intern_35 (by decide) (by decide) ?_
  refine z_iconst hC (pc := 41) (v := 0) dX6_intern_41 (by decide) ?_
  refine z_istore hC (pc := 42) (lv' := [(5, .int 0), (4, .int (-1)), (0, .ref h0), (1, .ref (G.2.2 0)), (2, .int 0), (3, .int 2)]) dX6_intern_42 (by decide) rfl ?_
  refine z_iload hC (pc := 44) 0 dX6_intern_44 rfl ?_
  refine z_iload_n hC (pc := 46) 5 dX6_intern_46 rfl rfl ?_
  refine z_icmp_geF hC (pc := 47) 78 dX6_intern_47 (by decide) (by decide) ?_
  refine z_aload_n hC (pc := 50) 2 dX6_intern_50 rfl rfl ?_
  refine z_get hC (pc := 51) zf6 3 0 dX6_intern_51 zw174 rfl rfl (kk := ?_)
  refine z_aload_n hC (pc := 54) 2 dX6_intern_54 rfl rfl ?_
  refine z_get hC (pc := 55) zf6 3 5 dX6_intern_55 zw186 rfl rfl (kk := ?_)
  refine z_iload hC (pc := 58) 0 dX6_intern_58 rfl ?_
  refine z_iadd hC (pc := 60) (v := 1) dX6_intern_60 (by decide) ?_
  refine z_aload_n hC (pc := 61) 3 dX6_intern_61 rfl rfl ?_
  refine z_iload_n hC (pc := 62) 4 dX6_intern_62 rfl rfl ?_
  refine z_iload hC (pc := 63) 0 dX6_intern_63 rfl ?_
  refine z_iadd hC (pc := 65) (v := 0) dX6_intern_65 (by decide) ?_
  refine z_callSNi hC (pc := 66) (k := 0) (n := 0) (As := [.ref (G.2.2 0), .int 0]) (wr := [(h2, .inl (G.2.1 1, 32100, .inl (upd (fun _ => 0) 0 105))), (h3, .inl (G.2.1 0, 16102, .inl (upd (upd (fun _ => 0) 0 0) 1 1))), (h4, .inl (G.2.1 0, 16102, .inl (upd (fun _ => 0) 0 (-1)))), (h0, .inr (6, [.ref h2, .ref h3, .ref h4, .ref h1, .int 1, .int 1])), (h1, .inl (G.2.1 0, 8192, .inl (upd (fun _ => (-1)) 136 0)))]) (kX12_getByte_122 l G) dmX12_getByte [] [0, 1, 2, 3, 4] rfl rfl rfl dX6_intern_66 zw971 rfl rfl (Nat.le_of_ble_eq_true rfl) (Nat.le_of_ble_eq_true rfl) (Nat.le_of_ble_eq_true rfl) (Nat.le_of_ble_eq_true rfl) (Nat.le_of_ble_eq_true rfl) (fun r w hp => ?_)
  obtain ⟨rfl, rfl⟩ := hp
  refine z_callSNv hC (pc := 69) (k := 0) (n := 0) (As := [.ref h2, .int 1, .int 105]) (wr := [(h3, .inl (G.2.1 0, 16102, .inl (upd (upd (fun _ => 0) 0 0) 1 1))), (h4, .inl (G.2.1 0, 16102, .inl (upd (fun _ => 0) 0 (-1)))), (h0, .inr (6, [.ref h2, .ref h3, .ref h4, .ref h1, .int 1, .int 1])), (h1, .inl (G.2.1 0, 8192, .inl (upd (fun _ => (-1)) 136 0)))]) (kX12_setByte_132 l G h2) dmX12_setByte [0] [1, 2, 3, 4] rfl rfl rfl dX6_intern_69 zw972 rfl rfl (Nat.le_of_ble_eq_true rfl) (Nat.le_of_ble_eq_true rfl) (Nat.le_of_ble_eq_true rfl) (Nat.le_of_ble_eq_true rfl) (Nat.le_of_ble_eq_true rfl) (fun w hp => ?_)
  obtain rfl := hp
  refine z_iinc hC (pc := 72) (v := 1) (lv' := [(5, .int 1), (4, .int (-1)), (0, .ref h0), (1, .ref (G.2.2 0)), (2, .int 0), (3, .int 2)]) 0 dX6_intern_72 rfl (by decide) (by decide) rfl ?_
  refine z_goto hC (pc := 75) 44 dX6_intern_75 (by decide) ?_
  refine z_iload hC (pc := 44) 0 dX6_intern_44 rfl ?_
  refine z_iload_n hC (pc := 46) 5 dX6_intern_46 rfl rfl ?_
  refine z_icmp_geF hC (pc := 47) 78 dX6_intern_47 (by decide) (by decide) ?_
  refine z_aload_n hC (pc := 50) 2 dX6_intern_50 rfl rfl ?_
  refine z_get hC (pc := 51) zf6 2 0 dX6_intern_51 zw174 rfl rfl (kk := ?_)
  refine z_aload_n hC (pc := 54) 2 dX6_intern_54 rfl rfl ?_
  refine z_get hC (pc := 55) zf6 2 5 dX6_intern_55 zw186 rfl rfl (kk := ?_)
  refine z_iload hC (pc := 58) 0 dX6_intern_58 rfl ?_
  refine z_iadd hC (pc := 60) (v := 2) dX6_intern_60 (by decide) ?_
  refine z_aload_n hC (pc := 61) 3 dX6_intern_61 rfl rfl ?_
  refine z_iload_n hC (pc := 62) 4 dX6_intern_62 rfl rfl ?_
  refine z_iload hC (pc := 63) 0 dX6_intern_63 rfl ?_
  refine z_iadd hC (pc := 65) (v := 1) dX6_intern_65 (by decide) ?_
  refine z_callSNi hC (pc := 66) (k := 0) (n := 0) (As := [.ref (G.2.2 0), .int 1]) (wr := [(h3, .inl (G.2.1 0, 16102, .inl (upd (upd (fun _ => 0) 0 0) 1 1))), (h4, .inl (G.2.1 0, 16102, .inl (upd (fun _ => 0) 0 (-1)))), (h0, .inr (6, [.ref h2, .ref h3, .ref h4, .ref h1, .int 1, .int 1])), (h1, .inl (G.2.1 0, 8192, .inl (upd (fun _ => (-1)) 136 0))), (h2, .inl (G.2.1 1, 32100, .inl (upd (upd (fun _ => 0) 0 105) 1 105)))]) (kX12_getByte_133 l G) dmX12_getByte [] [0, 1, 2, 3, 4] rfl rfl rfl dX6_intern_66 zw971 rfl rfl (Nat.le_of_ble_eq_true rfl) (Nat.le_of_ble_eq_true rfl) (Nat.le_of_ble_eq_true rfl) (Nat.le_of_ble_eq_true rfl) (Nat.le_of_ble_eq_true rfl) (fun r w hp => ?_)
  obtain ⟨rfl, rfl⟩ := hp
  refine z_callSNv hC (pc := 69) (k := 0) (n := 0) (As := [.ref h2, .int 2, .int 48]) (wr := [(h3, .inl (G.2.1 0, 16102, .inl (upd (upd (fun _ => 0) 0 0) 1 1))), (h4, .inl (G.2.1 0, 16102, .inl (upd (fun _ => 0) 0 (-1)))), (h0, .inr (6, [.ref h2, .ref h3, .ref h4, .ref h1, .int 1, .int 1])), (h1, .inl (G.2.1 0, 8192, .inl (upd (fun _ => (-1)) 136 0)))]) (kX12_setByte_134 l G h2) dmX12_setByte [4] [0, 1, 2, 3] rfl rfl rfl dX6_intern_69 zw972 rfl rfl (Nat.le_of_ble_eq_true rfl) (Nat.le_of_ble_eq_true rfl) (Nat.le_of_ble_eq_true rfl) (Nat.le_of_ble_eq_true rfl) (Nat.le_of_ble_eq_true rfl) (fun w hp => ?_)
  obtain rfl := hp
  refine z_iinc hC (pc := 72) (v := 2) (lv' := [(5, .int 2), (4, .int (-1)), (0, .ref h0), (1, .ref (G.2.2 0)), (2, .int 0), (3, .int 2)]) 0 dX6_intern_72 rfl (by decide) (by decide) rfl ?_
  refine z_goto hC (pc := 75) 44 dX6_intern_75 (by decide) ?_
  refine z_iload hC (pc := 44) 0 dX6_intern_44 rfl ?_
  refine z_iload_n hC (pc := 46) 5 dX6_intern_46 rfl rfl ?_
  refine z_icmp_geT hC (pc := 47) 78 dX6_intern_47 (by decide) (by decide) ?_
  refine z_aload_n hC (pc := 78) 3 dX6_intern_78 rfl rfl ?_
  refine z_iload_n hC (pc := 79) 4 dX6_intern_79 rfl rfl ?_
  refine z_iload_n hC (pc := 80) 5 dX6_intern_80 rfl rfl ?_
  refine z_callSi hC (pc := 81) (k := 0) (n := 0) (As := [.ref (G.2.2 0), .int 0, .int 2]) (wr := [(h3, .inl (G.2.1 0, 16102, .inl (upd (upd (fun _ => 0) 0 0) 1 1))), (h4, .inl (G.2.1 0, 16102, .inl (upd (fun _ => 0) 0 (-1)))), (h0, .inr (6, [.ref h2, .ref h3, .ref h4, .ref h1, .int 1, .int 1])), (h1, .inl (G.2.1 0, 8192, .inl (upd (fun _ => (-1)) 136 0))), (h2, .inl (G.2.1 1, 32100, .inl (upd (upd (upd (fun _ => 0) 0 105) 1 105) 2 48)))]) (kX6_hash_129 l G) dmX6_hash [] [0, 1, 2, 3, 4] rfl rfl rfl dX6_intern_81 zw962 rfl rfl (Nat.le_of_ble_eq_true rfl) (Nat.le_of_ble_eq_true rfl) (Nat.le_of_ble_eq_true rfl) (Nat.le_of_ble_eq_true rfl) (Nat.le_of_ble_eq_true rfl) (fun r w hp => ?_)
  obtain ⟨rfl, rfl⟩ := hp
  refine z_istore hC (pc := 84) (lv' := [(5, .int 5225), (4, .int (-1)), (0, .ref h0), (1, .ref (G.2.2 0)), (2, .int 0), (3, .int 2)]) dX6_intern_84 (by decide) rfl ?_
  refine z_aload_n hC (pc := 86) 2 dX6_intern_86 rfl rfl ?_
  refine z_get hC (pc := 87) zf6 2 1 dX6_intern_87 zw178 rfl rfl (kk := ?_)
  refine z_aload_n hC (pc := 90) 2 dX6_intern_90 rfl rfl ?_
  refine z_get hC (pc := 91) zf6 2 4 dX6_intern_91 zw184 rfl rfl (kk := ?_)
  refine z_aload_n hC (pc := 94) 2 dX6_intern_94 rfl rfl ?_
  refine z_get hC (pc := 95) zf6 2 5 dX6_intern_95 zw186 rfl rfl (kk := ?_)
  refine z_callSNv hC (pc := 98) (k := 0) (n := 0) (As := [.ref h3, .int 1, .int 1]) (wr := [(h4, .inl (G.2.1 0, 16102, .inl (upd (fun _ => 0) 0 (-1)))), (h0, .inr (6, [.ref h2, .ref h3, .ref h4, .ref h1, .int 1, .int 1])), (h1, .inl (G.2.1 0, 8192, .inl (upd (fun _ => (-1)) 136 0))), (h2, .inl (G.2.1 1, 32100, .inl (upd (upd (upd (fun _ => 0) 0 105) 1 105) 2 48)))]) (kX12_set_135 l G h3) dmX12_set [0] [1, 2, 3, 4] rfl rfl rfl dX6_intern_98 zw973 rfl rfl (Nat.le_of_ble_eq_true rfl) (Nat.le_of_ble_eq_true rfl) (Nat.le_of_ble_eq_true rfl) (Nat.le_of_ble_eq_true rfl) (Nat.le_of_ble_eq_true rfl) (fun w hp => ?_)
  obtain rfl := hp
  refine z_aload_n hC (pc := 101) 2 dX6_intern_101 rfl rfl ?_
  refine z_dup hC (pc := 102) dX6_intern_102 rfl ?_
  refine z_get hC (pc := 103) zf6 1 5 dX6_intern_103 zw186 rfl rfl (kk := ?_)
  refine z_iload_n hC (pc := 106) 5 dX6_intern_106 rfl rfl ?_
  refine z_iadd hC (pc := 107) (v := 3) dX6_intern_107 (by decide) ?_
  refine z_put hC (pc := 108) zf6 1 5 [(h4, .inl (G.2.1 0, 16102, .inl (upd (fun _ => 0) 0 (-1)))), (h0, .inr (6, [.ref h2, .ref h3, .ref h4, .ref h1, .int 1, .int 3])), (h1, .inl (G.2.1 0, 8192, .inl (upd (fun _ => (-1)) 136 0))), (h2, .inl (G.2.1 1, 32100, .inl (upd (upd (upd (fun _ => 0) 0 105) 1 105) 2 48))), (h3, .inl (G.2.1 0, 16102, .inl (upd (upd (upd (fun _ => 0) 0 0) 1 1) 1 1)))] dX6_intern_108 zw186 rfl rfl rfl rfl rfl (kk := ?_)
  refine z_aload_n hC (pc := 111) 2 dX6_intern_111 rfl rfl ?_
  refine z_get hC (pc := 112) zf6 1 1 dX6_intern_112 zw178 rfl rfl (kk := ?_)
  refine z_aload_n hC (pc := 115) 2 dX6_intern_115 rfl rfl ?_
  refine z_get hC (pc := 116) zf6 1 4 dX6_intern_116 zw184 rfl rfl (kk := ?_)
  refine z_iconst hC (pc := 119) (v := 1) dX6_intern_119 (by decide) ?_
  refine z_iadd hC (pc := 120) (v := 2) dX6_intern_120 (by decide) ?_
  refine z_aload_n hC (pc := 121) 2 dX6_intern_121 rfl rfl ?_
  refine z_get hC (pc := 122) zf6 1 5 dX6_intern_122 zw186 rfl rfl (kk := ?_)
  refine z_callSNv hC (pc := 125) (k := 0) (n := 0) (As := [.ref h3, .int 2, .int 3]) (wr := [(h4, .inl (G.2.1 0, 16102, .inl (upd (fun _ => 0) 0 (-1)))), (h0, .inr (6, [.ref h2, .ref h3, .ref h4, .ref h1, .int 1, .int 3])), (h1, .inl (G.2.1 0, 8192, .inl (upd (fun _ => (-1)) 136 0))), (h2, .inl (G.2.1 1, 32100, .inl (upd (upd (upd (fun _ => 0) 0 105) 1 105) 2 48)))]) (kX12_set_136 l G h3) dmX12_set [4] [0, 1, 2, 3] rfl rfl rfl dX6_intern_125 zw973 rfl rfl (Nat.le_of_ble_eq_true rfl) (Nat.le_of_ble_eq_true rfl) (Nat.le_of_ble_eq_true rfl) (Nat.le_of_ble_eq_true rfl) (Nat.le_of_ble_eq_true rfl) (fun w hp => ?_)
  obtain rfl := hp
  refine z_aload_n hC (pc := 128) 2 dX6_intern_128 rfl rfl ?_
  refine z_get hC (pc := 129) zf6 1 2 dX6_intern_129 zw182 rfl rfl (kk := ?_)
  refine z_aload_n hC (pc := 132) 2 dX6_intern_132 rfl rfl ?_
  refine z_get hC (pc := 133) zf6 1 4 dX6_intern_133 zw184 rfl rfl (kk := ?_)
  refine z_aload_n hC (pc := 136) 2 dX6_intern_136 rfl rfl ?_
  refine z_get hC (pc := 137) zf6 1 3 dX6_intern_137 zw183 rfl rfl (kk := ?_)
  refine z_iload hC (pc := 140) 0 dX6_intern_140 rfl ?_
  refine z_callSNi hC (pc := 142) (k := 0) (n := 0) (As := [.ref h1, .int 5225]) (wr := [(h4, .inl (G.2.1 0, 16102, .inl (upd (fun _ => 0) 0 (-1)))), (h0, .inr (6, [.ref h2, .ref h3, .ref h4, .ref h1, .int 1, .int 3])), (h2, .inl (G.2.1 1, 32100, .inl (upd (upd (upd (fun _ => 0) 0 105) 1 105) 2 48))), (h3, .inl (G.2.1 0, 16102, .inl (upd (upd (upd (upd (fun _ => 0) 0 0) 1 1) 1 1) 2 3)))]) (kX12_get_130 l G h1) dmX12_get [2] [0, 1, 3, 4] rfl rfl rfl dX6_intern_142 zw965 rfl rfl (Nat.le_of_ble_eq_true rfl) (Nat.le_of_ble_eq_true rfl) (Nat.le_of_ble_eq_true rfl) (Nat.le_of_ble_eq_true rfl) (Nat.le_of_ble_eq_true rfl) (fun r w hp => ?_)
  obtain ⟨rfl, rfl⟩ := hp
  refine z_callSNv hC (pc := 145) (k := 0) (n := 0) (As := [.ref h4, .int 1, .int (-1)]) (wr := [(h0, .inr (6, [.ref h2, .ref h3, .ref h4, .ref h1, .int 1, .int 3])), (h2, .inl (G.2.1 1, 32100, .inl (upd (upd (upd (fun _ => 0) 0 105) 1 105) 2 48))), (h3, .inl (G.2.1 0, 16102, .inl (upd (upd (upd (upd (fun _ => 0) 0 0) 1 1) 1 1) 2 3))), (h1, .inl (G.2.1 0, 8192, .inl (upd (fun _ => (-1)) 136 0)))]) (kX12_set_137 l G h4) dmX12_set [0] [1, 2, 3, 4] rfl rfl rfl dX6_intern_145 zw973 rfl rfl (Nat.le_of_ble_eq_true rfl) (Nat.le_of_ble_eq_true rfl) (Nat.le_of_ble_eq_true rfl) (Nat.le_of_ble_eq_true rfl) (Nat.le_of_ble_eq_true rfl) (fun w hp => ?_)
  obtain rfl := hp
  refine z_aload_n hC (pc := 148) 2 dX6_intern_148 rfl rfl ?_
  refine z_get hC (pc := 149) zf6 0 3 dX6_intern_149 zw183 rfl rfl (kk := ?_)
  refine z_iload hC (pc := 152) 0 dX6_intern_152 rfl ?_
  refine z_aload_n hC (pc := 154) 2 dX6_intern_154 rfl rfl ?_
  refine z_get hC (pc := 155) zf6 0 4 dX6_intern_155 zw184 rfl rfl (kk := ?_)
  refine z_callSNv hC (pc := 158) (k := 0) (n := 0) (As := [.ref h1, .int 5225, .int 1]) (wr := [(h0, .inr (6, [.ref h2, .ref h3, .ref h4, .ref h1, .int 1, .int 3])), (h2, .inl (G.2.1 1, 32100, .inl (upd (upd (upd (fun _ => 0) 0 105) 1 105) 2 48))), (h3, .inl (G.2.1 0, 16102, .inl (upd (upd (upd (upd (fun _ => 0) 0 0) 1 1) 1 1) 2 3))), (h4, .inl (G.2.1 0, 16102, .inl (upd (upd (fun _ => 0) 0 (-1)) 1 (-1))))]) (kX12_set_138 l G h1) dmX12_set [3] [0, 1, 2, 4] rfl rfl rfl dX6_intern_158 zw973 rfl rfl (Nat.le_of_ble_eq_true rfl) (Nat.le_of_ble_eq_true rfl) (Nat.le_of_ble_eq_true rfl) (Nat.le_of_ble_eq_true rfl) (Nat.le_of_ble_eq_true rfl) (fun w hp => ?_)
  obtain rfl := hp
  refine z_aload_n hC (pc := 161) 2 dX6_intern_161 rfl rfl ?_
  refine z_dup hC (pc := 162) dX6_intern_162 rfl ?_
  refine z_get hC (pc := 163) zf6 0 4 dX6_intern_163 zw184 rfl rfl (kk := ?_)
  refine z_iconst hC (pc := 166) (v := 1) dX6_intern_166 (by decide) ?_
  refine z_iadd hC (pc := 167) (v := 2) dX6_intern_167 (by decide) ?_
  refine z_put hC (pc := 168) zf6 0 4 [(h0, .inr (6, [.ref h2, .ref h3, .ref h4, .ref h1, .int 2, .int 3])), (h2, .inl (G.2.1 1, 32100, .inl (upd (upd (upd (fun _ => 0) 0 105) 1 105) 2 48))), (h3, .inl (G.2.1 0, 16102, .inl (upd (upd (upd (upd (fun _ => 0) 0 0) 1 1) 1 1) 2 3))), (h4, .inl (G.2.1 0, 16102, .inl (upd (upd (fun _ => 0) 0 (-1)) 1 (-1)))), (h1, .inl (G.2.1 0, 8192, .inl (upd (upd (fun _ => (-1)) 136 0) 5225 1)))] dX6_intern_168 zw184 rfl rfl rfl rfl rfl (kk := ?_)
  refine z_aload_n hC (pc := 171) 2 dX6_intern_171 rfl rfl ?_
  refine z_get hC (pc := 172) zf6 0 4 dX6_intern_172 zw184 rfl rfl (kk := ?_)
  refine z_iconst hC (pc := 175) (v := 1) dX6_intern_175 (by decide) ?_
  refine z_isub hC (pc := 176) (v := 1) dX6_intern_176 (by decide) ?_
  exact hR _ _ _ _ _ _ dX6_intern_177 rfl (Nat.le_of_ble_eq_true rfl) (Nat.le_of_ble_eq_true rfl) ⟨rfl, rfl⟩
