set_option maxRecDepth 100000 in
theorem kX12_setByte_16 (l : Launch) (G : zG) (h0 : Nat) (x1 : Int32) : zMv l G yX12_setByte cX12_setByte 3 0 0 0 0 [.ref h0, .int 0, .int x1] [(h0, .inl (G.2.1 1, 20, .inl (fun _ => 0)))] (fun w => w = [(h0, .inl (G.2.1 1, 20, .inl (upd (fun _ => 0) 0 (vp_nar .byte (x1).toInt8.toInt32))))]) := by
  refine zMv.intro (by decide) (Nat.le_of_ble_eq_true rfl) (fun X hC hR => ?_)
  refine z_iload_n hC (pc := 0) 1 dX12_setByte_0 rfl rfl ?_
  refine z_if_ltF hC (pc := 1) 15 dX12_setByte_1 (by decide) (by decide) ?_
  refine z_iload_n hC (pc := 4) 1 dX12_setByte_4 rfl rfl ?_
  refine z_aload_n hC (pc := 5) 0 dX12_setByte_5 rfl rfl ?_
  refine z_alen1 hC (pc := 6) (v := 20) 0 dX12_setByte_6 rfl rfl ?_
  refine z_icmp_geF hC (pc := 7) 15 dX12_setByte_7 (by decide) (by decide) ?_
  refine z_aload_n hC (pc := 10) 0 dX12_setByte_10 rfl rfl ?_
  refine z_iload_n hC (pc := 11) 1 dX12_setByte_11 rfl rfl ?_
  refine z_iload_n hC (pc := 12) 2 dX12_setByte_12 rfl rfl ?_
  refine z_i2b hC (pc := 13) (v := (x1).toInt8.toInt32) dX12_setByte_13 rfl ?_
  refine z_bast hC (pc := 14) (f' := (upd (fun _ => 0) 0 (vp_nar .byte (x1).toInt8.toInt32))) 0 [(h0, .inl (G.2.1 1, 20, .inl (upd (fun _ => 0) 0 (vp_nar .byte (x1).toInt8.toInt32))))] dX12_setByte_14 rfl (zvi rfl) rfl rfl ?_
  exact hR _ _ _ _ _ dX12_setByte_15 (Nat.le_of_ble_eq_true rfl) (Nat.le_of_ble_eq_true rfl) rfl
set_option maxRecDepth 100000 in
theorem kX12_setByte_17 (l : Launch) (G : zG) (h0 : Nat) (x1 : Int32) (x2 : Int32) : zMv l G yX12_setByte cX12_setByte 3 0 0 0 0 [.ref h0, .int 1, .int x1] [(h0, .inl (G.2.1 1, 20, .inl (upd (fun _ => 0) 0 x2)))] (fun w => w = [(h0, .inl (G.2.1 1, 20, .inl (upd (upd (fun _ => 0) 0 x2) 1 (vp_nar .byte (x1).toInt8.toInt32))))]) := by
  refine zMv.intro (by decide) (Nat.le_of_ble_eq_true rfl) (fun X hC hR => ?_)
  refine z_iload_n hC (pc := 0) 1 dX12_setByte_0 rfl rfl ?_
  refine z_if_ltF hC (pc := 1) 15 dX12_setByte_1 (by decide) (by decide) ?_
  refine z_iload_n hC (pc := 4) 1 dX12_setByte_4 rfl rfl ?_
  refine z_aload_n hC (pc := 5) 0 dX12_setByte_5 rfl rfl ?_
  refine z_alen1 hC (pc := 6) (v := 20) 0 dX12_setByte_6 rfl rfl ?_
  refine z_icmp_geF hC (pc := 7) 15 dX12_setByte_7 (by decide) (by decide) ?_
  refine z_aload_n hC (pc := 10) 0 dX12_setByte_10 rfl rfl ?_
  refine z_iload_n hC (pc := 11) 1 dX12_setByte_11 rfl rfl ?_
  refine z_iload_n hC (pc := 12) 2 dX12_setByte_12 rfl rfl ?_
  refine z_i2b hC (pc := 13) (v := (x1).toInt8.toInt32) dX12_setByte_13 rfl ?_
  refine z_bast hC (pc := 14) (f' := (upd (upd (fun _ => 0) 0 x2) 1 (vp_nar .byte (x1).toInt8.toInt32))) 0 [(h0, .inl (G.2.1 1, 20, .inl (upd (upd (fun _ => 0) 0 x2) 1 (vp_nar .byte (x1).toInt8.toInt32))))] dX12_setByte_14 rfl (zvi rfl) rfl rfl ?_
  exact hR _ _ _ _ _ dX12_setByte_15 (Nat.le_of_ble_eq_true rfl) (Nat.le_of_ble_eq_true rfl) rfl
set_option maxRecDepth 100000 in
theorem kX12_setByte_18 (l : Launch) (G : zG) (h0 : Nat) (x1 : Int32) (x2 : Int32) (x3 : Int32) : zMv l G yX12_setByte cX12_setByte 3 0 0 0 0 [.ref h0, .int 2, .int x1] [(h0, .inl (G.2.1 1, 20, .inl (upd (upd (fun _ => 0) 0 x2) 1 x3)))] (fun w => w = [(h0, .inl (G.2.1 1, 20, .inl (upd (upd (upd (fun _ => 0) 0 x2) 1 x3) 2 (vp_nar .byte (x1).toInt8.toInt32))))]) := by
  refine zMv.intro (by decide) (Nat.le_of_ble_eq_true rfl) (fun X hC hR => ?_)
  refine z_iload_n hC (pc := 0) 1 dX12_setByte_0 rfl rfl ?_
  refine z_if_ltF hC (pc := 1) 15 dX12_setByte_1 (by decide) (by decide) ?_
  refine z_iload_n hC (pc := 4) 1 dX12_setByte_4 rfl rfl ?_
  refine z_aload_n hC (pc := 5) 0 dX12_setByte_5 rfl rfl ?_
  refine z_alen1 hC (pc := 6) (v := 20) 0 dX12_setByte_6 rfl rfl ?_
  refine z_icmp_geF hC (pc := 7) 15 dX12_setByte_7 (by decide) (by decide) ?_
  refine z_aload_n hC (pc := 10) 0 dX12_setByte_10 rfl rfl ?_
  refine z_iload_n hC (pc := 11) 1 dX12_setByte_11 rfl rfl ?_
  refine z_iload_n hC (pc := 12) 2 dX12_setByte_12 rfl rfl ?_
  refine z_i2b hC (pc := 13) (v := (x1).toInt8.toInt32) dX12_setByte_13 rfl ?_
  refine z_bast hC (pc := 14) (f' := (upd (upd (upd (fun _ => 0) 0 x2) 1 x3) 2 (vp_nar .byte (x1).toInt8.toInt32))) 0 [(h0, .inl (G.2.1 1, 20, .inl (upd (upd (upd (fun _ => 0) 0 x2) 1 x3) 2 (vp_nar .byte (x1).toInt8.toInt32))))] dX12_setByte_14 rfl (zvi rfl) rfl rfl ?_
  exact hR _ _ _ _ _ dX12_setByte_15 (Nat.le_of_ble_eq_true rfl) (Nat.le_of_ble_eq_true rfl) rfl
set_option maxRecDepth 100000 in
theorem kX12_setByte_19 (l : Launch) (G : zG) (h0 : Nat) (x1 : Int32) (x2 : Int32) (x3 : Int32) (x4 : Int32) : zMv l G yX12_setByte cX12_setByte 3 0 0 0 0 [.ref h0, .int 3, .int x1] [(h0, .inl (G.2.1 1, 20, .inl (upd (upd (upd (fun _ => 0) 0 x2) 1 x3) 2 x4)))] (fun w => w = [(h0, .inl (G.2.1 1, 20, .inl (upd (upd (upd (upd (fun _ => 0) 0 x2) 1 x3) 2 x4) 3 (vp_nar .byte (x1).toInt8.toInt32))))]) := by
  refine zMv.intro (by decide) (Nat.le_of_ble_eq_true rfl) (fun X hC hR => ?_)
  refine z_iload_n hC (pc := 0) 1 dX12_setByte_0 rfl rfl ?_
  refine z_if_ltF hC (pc := 1) 15 dX12_setByte_1 (by decide) (by decide) ?_
  refine z_iload_n hC (pc := 4) 1 dX12_setByte_4 rfl rfl ?_
  refine z_aload_n hC (pc := 5) 0 dX12_setByte_5 rfl rfl ?_
  refine z_alen1 hC (pc := 6) (v := 20) 0 dX12_setByte_6 rfl rfl ?_
  refine z_icmp_geF hC (pc := 7) 15 dX12_setByte_7 (by decide) (by decide) ?_
  refine z_aload_n hC (pc := 10) 0 dX12_setByte_10 rfl rfl ?_
  refine z_iload_n hC (pc := 11) 1 dX12_setByte_11 rfl rfl ?_
  refine z_iload_n hC (pc := 12) 2 dX12_setByte_12 rfl rfl ?_
  refine z_i2b hC (pc := 13) (v := (x1).toInt8.toInt32) dX12_setByte_13 rfl ?_
  refine z_bast hC (pc := 14) (f' := (upd (upd (upd (upd (fun _ => 0) 0 x2) 1 x3) 2 x4) 3 (vp_nar .byte (x1).toInt8.toInt32))) 0 [(h0, .inl (G.2.1 1, 20, .inl (upd (upd (upd (upd (fun _ => 0) 0 x2) 1 x3) 2 x4) 3 (vp_nar .byte (x1).toInt8.toInt32))))] dX12_setByte_14 rfl (zvi rfl) rfl rfl ?_
  exact hR _ _ _ _ _ dX12_setByte_15 (Nat.le_of_ble_eq_true rfl) (Nat.le_of_ble_eq_true rfl) rfl
set_option maxRecDepth 100000 in
theorem kX12_fourReady_20 (l : Launch) (G : zG) (h0 : Nat) (h1 : Nat) (x2 : Int32) (g3 : Nat) (g4 : Nat) (g5 : Nat) (g6 : Nat) (g7 : Nat) (g8 : Nat) (g9 : Nat) (g10 : Nat) (g11 : Nat) (g12 : Nat) : zMv l G yX12_fourReady cX12_fourReady 4 1 22 0 0 [.ref h0, .int 0, .int x2] [(h0, .inr (12, [.ref h1, .ref g3, .int 0, .ref g4, .ref g5, .ref g6, .ref g7, .ref g8, .ref g9, .ref g10, .ref g11, .ref g12, .int 0, .int 0, .int (-1), .int (-1), .int 0, .int 0, .int 0])), (h1, .inl (G.2.1 1, 20, .inl (fun _ => 0)))] (fun w => w = [(h0, .inr (12, [.ref h1, .ref g3, .int 0, .ref g4, .ref g5, .ref g6, .ref g7, .ref g8, .ref g9, .ref g10, .ref g11, .ref g12, .int 0, .int 0, .int (-1), .int (-1), .int 0, .int 0, .int 0])), (h1, .inl (G.2.1 1, 20, .inl (upd (upd (upd (upd (fun _ => 0) 0 (vp_nar .byte (((x2 : Int32).toUInt32 >>> ((24 : Int32).toUInt32 &&& Int32.toUInt32 31)).toInt32).toInt8.toInt32)) 1 (vp_nar .byte (((x2 : Int32).toUInt32 >>> ((16 : Int32).toUInt32 &&& Int32.toUInt32 31)).toInt32).toInt8.toInt32)) 2 (vp_nar .byte (((x2 : Int32).toUInt32 >>> ((8 : Int32).toUInt32 &&& Int32.toUInt32 31)).toInt32).toInt8.toInt32)) 3 (vp_nar .byte (((x2 : Int32).toUInt32 >>> ((0 : Int32).toUInt32 &&& Int32.toUInt32 31)).toInt32).toInt8.toInt32))))]) := by
  refine zMv.intro (by decide) (Nat.le_of_ble_eq_true rfl) (fun X hC hR => ?_)
  refine z_iconst hC (pc := 0) (v := 0) dX12_fourReady_0 (by decide) ?_
  refine z_istore_n hC (pc := 1) (lv' := [(3, .int 0), (0, .ref h0), (1, .int 0), (2, .int x2)]) dX12_fourReady_1 rfl (by decide) rfl ?_
  refine z_iload_n hC (pc := 2) 0 dX12_fourReady_2 rfl rfl ?_
  refine z_iconst hC (pc := 3) (v := 4) dX12_fourReady_3 (by decide) ?_
  refine z_icmp_geF hC (pc := 4) 32 dX12_fourReady_4 (by decide) (by decide) ?_
  refine z_aload_n hC (pc := 7) 1 dX12_fourReady_7 rfl rfl ?_
  refine z_get hC (pc := 8) zf12 0 0 dX12_fourReady_8 zw708 rfl rfl (kk := ?_)
  refine z_iload_n hC (pc := 11) 2 dX12_fourReady_11 rfl rfl ?_
  refine z_iload_n hC (pc := 12) 0 dX12_fourReady_12 rfl rfl ?_
  refine z_iadd hC (pc := 13) (v := 0) dX12_fourReady_13 (by decide) ?_
  refine z_iload_n hC (pc := 14) 3 dX12_fourReady_14 rfl rfl ?_
  refine z_bipush hC (pc := 15) (v := 24) dX12_fourReady_15 (by decide) ?_
  refine z_bipush hC (pc := 17) (v := 8) dX12_fourReady_17 (by decide) ?_
  refine z_iload_n hC (pc := 19) 0 dX12_fourReady_19 rfl rfl ?_
  refine z_imul hC (pc := 20) (v := 0) dX12_fourReady_20 (by decide) ?_
  refine z_isub hC (pc := 21) (v := 24) dX12_fourReady_21 (by decide) ?_
  refine z_iushr hC (pc := 22) (v := ((x2 : Int32).toUInt32 >>> ((24 : Int32).toUInt32 &&& Int32.toUInt32 31)).toInt32) dX12_fourReady_22 rfl ?_
  refine z_callSv hC (pc := 23) (k := 0) (n := 0) (As := [.ref h1, .int 0, .int (((x2 : Int32).toUInt32 >>> ((24 : Int32).toUInt32 &&& Int32.toUInt32 31)).toInt32)]) (wr := [(h0, .inr (12, [.ref h1, .ref g3, .int 0, .ref g4, .ref g5, .ref g6, .ref g7, .ref g8, .ref g9, .ref g10, .ref g11, .ref g12, .int 0, .int 0, .int (-1), .int (-1), .int 0, .int 0, .int 0]))]) (kX12_setByte_16 l G h1 ((x2 : Int32).toUInt32 >>> ((24 : Int32).toUInt32 &&& Int32.toUInt32 31)).toInt32) dmX12_setByte [1] [0] rfl rfl rfl dX12_fourReady_23 zw774 rfl rfl (Nat.le_of_ble_eq_true rfl) (Nat.le_of_ble_eq_true rfl) (Nat.le_of_ble_eq_true rfl) (Nat.le_of_ble_eq_true rfl) (Nat.le_of_ble_eq_true rfl) (fun w hp => ?_)
  obtain rfl := hp
  refine z_iinc hC (pc := 26) (v := 1) (lv' := [(3, .int 1), (0, .ref h0), (1, .int 0), (2, .int x2)]) 0 dX12_fourReady_26 rfl (by decide) (by decide) rfl ?_
  refine z_goto hC (pc := 29) 2 dX12_fourReady_29 (by decide) ?_
  refine z_iload_n hC (pc := 2) 0 dX12_fourReady_2 rfl rfl ?_
  refine z_iconst hC (pc := 3) (v := 4) dX12_fourReady_3 (by decide) ?_
  refine z_icmp_geF hC (pc := 4) 32 dX12_fourReady_4 (by decide) (by decide) ?_
  refine z_aload_n hC (pc := 7) 1 dX12_fourReady_7 rfl rfl ?_
  refine z_get hC (pc := 8) zf12 0 0 dX12_fourReady_8 zw708 rfl rfl (kk := ?_)
  refine z_iload_n hC (pc := 11) 2 dX12_fourReady_11 rfl rfl ?_
  refine z_iload_n hC (pc := 12) 0 dX12_fourReady_12 rfl rfl ?_
  refine z_iadd hC (pc := 13) (v := 1) dX12_fourReady_13 (by decide) ?_
  refine z_iload_n hC (pc := 14) 3 dX12_fourReady_14 rfl rfl ?_
  refine z_bipush hC (pc := 15) (v := 24) dX12_fourReady_15 (by decide) ?_
  refine z_bipush hC (pc := 17) (v := 8) dX12_fourReady_17 (by decide) ?_
  refine z_iload_n hC (pc := 19) 0 dX12_fourReady_19 rfl rfl ?_
  refine z_imul hC (pc := 20) (v := 8) dX12_fourReady_20 (by decide) ?_
  refine z_isub hC (pc := 21) (v := 16) dX12_fourReady_21 (by decide) ?_
  refine z_iushr hC (pc := 22) (v := ((x2 : Int32).toUInt32 >>> ((16 : Int32).toUInt32 &&& Int32.toUInt32 31)).toInt32) dX12_fourReady_22 rfl ?_
  refine z_callSv hC (pc := 23) (k := 0) (n := 0) (As := [.ref h1, .int 1, .int (((x2 : Int32).toUInt32 >>> ((16 : Int32).toUInt32 &&& Int32.toUInt32 31)).toInt32)]) (wr := [(h0, .inr (12, [.ref h1, .ref g3, .int 0, .ref g4, .ref g5, .ref g6, .ref g7, .ref g8, .ref g9, .ref g10, .ref g11, .ref g12, .int 0, .int 0, .int (-1), .int (-1), .int 0, .int 0, .int 0]))]) (kX12_setByte_17 l G h1 ((x2 : Int32).toUInt32 >>> ((16 : Int32).toUInt32 &&& Int32.toUInt32 31)).toInt32 (vp_nar .byte (((x2 : Int32).toUInt32 >>> ((24 : Int32).toUInt32 &&& Int32.toUInt32 31)).toInt32).toInt8.toInt32)) dmX12_setByte [1] [0] rfl rfl rfl dX12_fourReady_23 zw774 rfl rfl (Nat.le_of_ble_eq_true rfl) (Nat.le_of_ble_eq_true rfl) (Nat.le_of_ble_eq_true rfl) (Nat.le_of_ble_eq_true rfl) (Nat.le_of_ble_eq_true rfl) (fun w hp => ?_)
  obtain rfl := hp
  refine z_iinc hC (pc := 26) (v := 2) (lv' := [(3, .int 2), (0, .ref h0), (1, .int 0), (2, .int x2)]) 0 dX12_fourReady_26 rfl (by decide) (by decide) rfl ?_
  refine z_goto hC (pc := 29) 2 dX12_fourReady_29 (by decide) ?_
  refine z_iload_n hC (pc := 2) 0 dX12_fourReady_2 rfl rfl ?_
  refine z_iconst hC (pc := 3) (v := 4) dX12_fourReady_3 (by decide) ?_
  refine z_icmp_geF hC (pc := 4) 32 dX12_fourReady_4 (by decide) (by decide) ?_
  refine z_aload_n hC (pc := 7) 1 dX12_fourReady_7 rfl rfl ?_
  refine z_get hC (pc := 8) zf12 0 0 dX12_fourReady_8 zw708 rfl rfl (kk := ?_)
  refine z_iload_n hC (pc := 11) 2 dX12_fourReady_11 rfl rfl ?_
  refine z_iload_n hC (pc := 12) 0 dX12_fourReady_12 rfl rfl ?_
  refine z_iadd hC (pc := 13) (v := 2) dX12_fourReady_13 (by decide) ?_
  refine z_iload_n hC (pc := 14) 3 dX12_fourReady_14 rfl rfl ?_
  refine z_bipush hC (pc := 15) (v := 24) dX12_fourReady_15 (by decide) ?_
  refine z_bipush hC (pc := 17) (v := 8) dX12_fourReady_17 (by decide) ?_
  refine z_iload_n hC (pc := 19) 0 dX12_fourReady_19 rfl rfl ?_
  refine z_imul hC (pc := 20) (v := 16) dX12_fourReady_20 (by decide) ?_
  refine z_isub hC (pc := 21) (v := 8) dX12_fourReady_21 (by decide) ?_
  refine z_iushr hC (pc := 22) (v := ((x2 : Int32).toUInt32 >>> ((8 : Int32).toUInt32 &&& Int32.toUInt32 31)).toInt32) dX12_fourReady_22 rfl ?_
  refine z_callSv hC (pc := 23) (k := 0) (n := 0) (As := [.ref h1, .int 2, .int (((x2 : Int32).toUInt32 >>> ((8 : Int32).toUInt32 &&& Int32.toUInt32 31)).toInt32)]) (wr := [(h0, .inr (12, [.ref h1, .ref g3, .int 0, .ref g4, .ref g5, .ref g6, .ref g7, .ref g8, .ref g9, .ref g10, .ref g11, .ref g12, .int 0, .int 0, .int (-1), .int (-1), .int 0, .int 0, .int 0]))]) (kX12_setByte_18 l G h1 ((x2 : Int32).toUInt32 >>> ((8 : Int32).toUInt32 &&& Int32.toUInt32 31)).toInt32 (vp_nar .byte (((x2 : Int32).toUInt32 >>> ((24 : Int32).toUInt32 &&& Int32.toUInt32 31)).toInt32).toInt8.toInt32) (vp_nar .byte (((x2 : Int32).toUInt32 >>> ((16 : Int32).toUInt32 &&& Int32.toUInt32 31)).toInt32).toInt8.toInt32)) dmX12_setByte [1] [0] rfl rfl rfl dX12_fourReady_23 zw774 rfl rfl (Nat.le_of_ble_eq_true rfl) (Nat.le_of_ble_eq_true rfl) (Nat.le_of_ble_eq_true rfl) (Nat.le_of_ble_eq_true rfl) (Nat.le_of_ble_eq_true rfl) (fun w hp => ?_)
  obtain rfl := hp
  refine z_iinc hC (pc := 26) (v := 3) (lv' := [(3, .int 3), (0, .ref h0), (1, .int 0), (2, .int x2)]) 0 dX12_fourReady_26 rfl (by decide) (by decide) rfl ?_
  refine z_goto hC (pc := 29) 2 dX12_fourReady_29 (by decide) ?_
  refine z_iload_n hC (pc := 2) 0 dX12_fourReady_2 rfl rfl ?_
  refine z_iconst hC (pc := 3) (v := 4) dX12_fourReady_3 (by decide) ?_
  refine z_icmp_geF hC (pc := 4) 32 dX12_fourReady_4 (by decide) (by decide) ?_
  refine z_aload_n hC (pc := 7) 1 dX12_fourReady_7 rfl rfl ?_
  refine z_get hC (pc := 8) zf12 0 0 dX12_fourReady_8 zw708 rfl rfl (kk := ?_)
  refine z_iload_n hC (pc := 11) 2 dX12_fourReady_11 rfl rfl ?_
  refine z_iload_n hC (pc := 12) 0 dX12_fourReady_12 rfl rfl ?_
  refine z_iadd hC (pc := 13) (v := 3) dX12_fourReady_13 (by decide) ?_
  refine z_iload_n hC (pc := 14) 3 dX12_fourReady_14 rfl rfl ?_
  refine z_bipush hC (pc := 15) (v := 24) dX12_fourReady_15 (by decide) ?_
  refine z_bipush hC (pc := 17) (v := 8) dX12_fourReady_17 (by decide) ?_
  refine z_iload_n hC (pc := 19) 0 dX12_fourReady_19 rfl rfl ?_
  refine z_imul hC (pc := 20) (v := 24) dX12_fourReady_20 (by decide) ?_
  refine z_isub hC (pc := 21) (v := 0) dX12_fourReady_21 (by decide) ?_
  refine z_iushr hC (pc := 22) (v := ((x2 : Int32).toUInt32 >>> ((0 : Int32).toUInt32 &&& Int32.toUInt32 31)).toInt32) dX12_fourReady_22 rfl ?_
  refine z_callSv hC (pc := 23) (k := 0) (n := 0) (As := [.ref h1, .int 3, .int (((x2 : Int32).toUInt32 >>> ((0 : Int32).toUInt32 &&& Int32.toUInt32 31)).toInt32)]) (wr := [(h0, .inr (12, [.ref h1, .ref g3, .int 0, .ref g4, .ref g5, .ref g6, .ref g7, .ref g8, .ref g9, .ref g10, .ref g11, .ref g12, .int 0, .int 0, .int (-1), .int (-1), .int 0, .int 0, .int 0]))]) (kX12_setByte_19 l G h1 ((x2 : Int32).toUInt32 >>> ((0 : Int32).toUInt32 &&& Int32.toUInt32 31)).toInt32 (vp_nar .byte (((x2 : Int32).toUInt32 >>> ((24 : Int32).toUInt32 &&& Int32.toUInt32 31)).toInt32).toInt8.toInt32) (vp_nar .byte (((x2 : Int32).toUInt32 >>> ((16 : Int32).toUInt32 &&& Int32.toUInt32 31)).toInt32).toInt8.toInt32) (vp_nar .byte (((x2 : Int32).toUInt32 >>> ((8 : Int32).toUInt32 &&& Int32.toUInt32 31)).toInt32).toInt8.toInt32)) dmX12_setByte [1] [0] rfl rfl rfl dX12_fourReady_23 zw774 rfl rfl (Nat.le_of_ble_eq_true rfl) (Nat.le_of_ble_eq_true rfl) (Nat.le_of_ble_eq_true rfl) (Nat.le_of_ble_eq_true rfl) (Nat.le_of_ble_eq_true rfl) (fun w hp => ?_)
  obtain rfl := hp
  refine z_iinc hC (pc := 26) (v := 4) (lv' := [(3, .int 4), (0, .ref h0), (1, .int 0), (2, .int x2)]) 0 dX12_fourReady_26 rfl (by decide) (by decide) rfl ?_
  refine z_goto hC (pc := 29) 2 dX12_fourReady_29 (by decide) ?_
  refine z_iload_n hC (pc := 2) 0 dX12_fourReady_2 rfl rfl ?_
  refine z_iconst hC (pc := 3) (v := 4) dX12_fourReady_3 (by decide) ?_
  refine z_icmp_geT hC (pc := 4) 32 dX12_fourReady_4 (by decide) (by decide) ?_
  exact hR _ _ _ _ _ dX12_fourReady_32 (Nat.le_of_ble_eq_true rfl) (Nat.le_of_ble_eq_true rfl) rfl
set_option maxRecDepth 100000 in
theorem kX12_setByte_21 (l : Launch) (G : zG) (h0 : Nat) (x1 : Int32) (x2 : Int32) (x3 : Int32) (x4 : Int32) (x5 : Int32) : zMv l G yX12_setByte cX12_setByte 3 0 0 0 0 [.ref h0, .int 4, .int x1] [(h0, .inl (G.2.1 1, 20, .inl (upd (upd (upd (upd (fun _ => 0) 0 x2) 1 x3) 2 x4) 3 x5)))] (fun w => w = [(h0, .inl (G.2.1 1, 20, .inl (upd (upd (upd (upd (upd (fun _ => 0) 0 x2) 1 x3) 2 x4) 3 x5) 4 (vp_nar .byte (x1).toInt8.toInt32))))]) := by
  refine zMv.intro (by decide) (Nat.le_of_ble_eq_true rfl) (fun X hC hR => ?_)
  refine z_iload_n hC (pc := 0) 1 dX12_setByte_0 rfl rfl ?_
  refine z_if_ltF hC (pc := 1) 15 dX12_setByte_1 (by decide) (by decide) ?_
  refine z_iload_n hC (pc := 4) 1 dX12_setByte_4 rfl rfl ?_
  refine z_aload_n hC (pc := 5) 0 dX12_setByte_5 rfl rfl ?_
  refine z_alen1 hC (pc := 6) (v := 20) 0 dX12_setByte_6 rfl rfl ?_
  refine z_icmp_geF hC (pc := 7) 15 dX12_setByte_7 (by decide) (by decide) ?_
  refine z_aload_n hC (pc := 10) 0 dX12_setByte_10 rfl rfl ?_
  refine z_iload_n hC (pc := 11) 1 dX12_setByte_11 rfl rfl ?_
  refine z_iload_n hC (pc := 12) 2 dX12_setByte_12 rfl rfl ?_
  refine z_i2b hC (pc := 13) (v := (x1).toInt8.toInt32) dX12_setByte_13 rfl ?_
  refine z_bast hC (pc := 14) (f' := (upd (upd (upd (upd (upd (fun _ => 0) 0 x2) 1 x3) 2 x4) 3 x5) 4 (vp_nar .byte (x1).toInt8.toInt32))) 0 [(h0, .inl (G.2.1 1, 20, .inl (upd (upd (upd (upd (upd (fun _ => 0) 0 x2) 1 x3) 2 x4) 3 x5) 4 (vp_nar .byte (x1).toInt8.toInt32))))] dX12_setByte_14 rfl (zvi rfl) rfl rfl ?_
  exact hR _ _ _ _ _ dX12_setByte_15 (Nat.le_of_ble_eq_true rfl) (Nat.le_of_ble_eq_true rfl) rfl
set_option maxRecDepth 100000 in
theorem kX12_setByte_22 (l : Launch) (G : zG) (h0 : Nat) (x1 : Int32) (x2 : Int32) (x3 : Int32) (x4 : Int32) (x5 : Int32) (x6 : Int32) : zMv l G yX12_setByte cX12_setByte 3 0 0 0 0 [.ref h0, .int 5, .int x1] [(h0, .inl (G.2.1 1, 20, .inl (upd (upd (upd (upd (upd (fun _ => 0) 0 x2) 1 x3) 2 x4) 3 x5) 4 x6)))] (fun w => w = [(h0, .inl (G.2.1 1, 20, .inl (upd (upd (upd (upd (upd (upd (fun _ => 0) 0 x2) 1 x3) 2 x4) 3 x5) 4 x6) 5 (vp_nar .byte (x1).toInt8.toInt32))))]) := by
  refine zMv.intro (by decide) (Nat.le_of_ble_eq_true rfl) (fun X hC hR => ?_)
  refine z_iload_n hC (pc := 0) 1 dX12_setByte_0 rfl rfl ?_
  refine z_if_ltF hC (pc := 1) 15 dX12_setByte_1 (by decide) (by decide) ?_
  refine z_iload_n hC (pc := 4) 1 dX12_setByte_4 rfl rfl ?_
  refine z_aload_n hC (pc := 5) 0 dX12_setByte_5 rfl rfl ?_
  refine z_alen1 hC (pc := 6) (v := 20) 0 dX12_setByte_6 rfl rfl ?_
  refine z_icmp_geF hC (pc := 7) 15 dX12_setByte_7 (by decide) (by decide) ?_
  refine z_aload_n hC (pc := 10) 0 dX12_setByte_10 rfl rfl ?_
  refine z_iload_n hC (pc := 11) 1 dX12_setByte_11 rfl rfl ?_
  refine z_iload_n hC (pc := 12) 2 dX12_setByte_12 rfl rfl ?_
  refine z_i2b hC (pc := 13) (v := (x1).toInt8.toInt32) dX12_setByte_13 rfl ?_
  refine z_bast hC (pc := 14) (f' := (upd (upd (upd (upd (upd (upd (fun _ => 0) 0 x2) 1 x3) 2 x4) 3 x5) 4 x6) 5 (vp_nar .byte (x1).toInt8.toInt32))) 0 [(h0, .inl (G.2.1 1, 20, .inl (upd (upd (upd (upd (upd (upd (fun _ => 0) 0 x2) 1 x3) 2 x4) 3 x5) 4 x6) 5 (vp_nar .byte (x1).toInt8.toInt32))))] dX12_setByte_14 rfl (zvi rfl) rfl rfl ?_
  exact hR _ _ _ _ _ dX12_setByte_15 (Nat.le_of_ble_eq_true rfl) (Nat.le_of_ble_eq_true rfl) rfl
set_option maxRecDepth 100000 in
theorem kX12_setByte_23 (l : Launch) (G : zG) (h0 : Nat) (x1 : Int32) (x2 : Int32) (x3 : Int32) (x4 : Int32) (x5 : Int32) (x6 : Int32) (x7 : Int32) : zMv l G yX12_setByte cX12_setByte 3 0 0 0 0 [.ref h0, .int 6, .int x1] [(h0, .inl (G.2.1 1, 20, .inl (upd (upd (upd (upd (upd (upd (fun _ => 0) 0 x2) 1 x3) 2 x4) 3 x5) 4 x6) 5 x7)))] (fun w => w = [(h0, .inl (G.2.1 1, 20, .inl (upd (upd (upd (upd (upd (upd (upd (fun _ => 0) 0 x2) 1 x3) 2 x4) 3 x5) 4 x6) 5 x7) 6 (vp_nar .byte (x1).toInt8.toInt32))))]) := by
  refine zMv.intro (by decide) (Nat.le_of_ble_eq_true rfl) (fun X hC hR => ?_)
  refine z_iload_n hC (pc := 0) 1 dX12_setByte_0 rfl rfl ?_
  refine z_if_ltF hC (pc := 1) 15 dX12_setByte_1 (by decide) (by decide) ?_
  refine z_iload_n hC (pc := 4) 1 dX12_setByte_4 rfl rfl ?_
  refine z_aload_n hC (pc := 5) 0 dX12_setByte_5 rfl rfl ?_
  refine z_alen1 hC (pc := 6) (v := 20) 0 dX12_setByte_6 rfl rfl ?_
  refine z_icmp_geF hC (pc := 7) 15 dX12_setByte_7 (by decide) (by decide) ?_
  refine z_aload_n hC (pc := 10) 0 dX12_setByte_10 rfl rfl ?_
  refine z_iload_n hC (pc := 11) 1 dX12_setByte_11 rfl rfl ?_
  refine z_iload_n hC (pc := 12) 2 dX12_setByte_12 rfl rfl ?_
  refine z_i2b hC (pc := 13) (v := (x1).toInt8.toInt32) dX12_setByte_13 rfl ?_
  refine z_bast hC (pc := 14) (f' := (upd (upd (upd (upd (upd (upd (upd (fun _ => 0) 0 x2) 1 x3) 2 x4) 3 x5) 4 x6) 5 x7) 6 (vp_nar .byte (x1).toInt8.toInt32))) 0 [(h0, .inl (G.2.1 1, 20, .inl (upd (upd (upd (upd (upd (upd (upd (fun _ => 0) 0 x2) 1 x3) 2 x4) 3 x5) 4 x6) 5 x7) 6 (vp_nar .byte (x1).toInt8.toInt32))))] dX12_setByte_14 rfl (zvi rfl) rfl rfl ?_
  exact hR _ _ _ _ _ dX12_setByte_15 (Nat.le_of_ble_eq_true rfl) (Nat.le_of_ble_eq_true rfl) rfl
set_option maxRecDepth 100000 in
theorem kX12_setByte_24 (l : Launch) (G : zG) (h0 : Nat) (x1 : Int32) (x2 : Int32) (x3 : Int32) (x4 : Int32) (x5 : Int32) (x6 : Int32) (x7 : Int32) (x8 : Int32) : zMv l G yX12_setByte cX12_setByte 3 0 0 0 0 [.ref h0, .int 7, .int x1] [(h0, .inl (G.2.1 1, 20, .inl (upd (upd (upd (upd (upd (upd (upd (fun _ => 0) 0 x2) 1 x3) 2 x4) 3 x5) 4 x6) 5 x7) 6 x8)))] (fun w => w = [(h0, .inl (G.2.1 1, 20, .inl (upd (upd (upd (upd (upd (upd (upd (upd (fun _ => 0) 0 x2) 1 x3) 2 x4) 3 x5) 4 x6) 5 x7) 6 x8) 7 (vp_nar .byte (x1).toInt8.toInt32))))]) := by
  refine zMv.intro (by decide) (Nat.le_of_ble_eq_true rfl) (fun X hC hR => ?_)
  refine z_iload_n hC (pc := 0) 1 dX12_setByte_0 rfl rfl ?_
  refine z_if_ltF hC (pc := 1) 15 dX12_setByte_1 (by decide) (by decide) ?_
  refine z_iload_n hC (pc := 4) 1 dX12_setByte_4 rfl rfl ?_
  refine z_aload_n hC (pc := 5) 0 dX12_setByte_5 rfl rfl ?_
  refine z_alen1 hC (pc := 6) (v := 20) 0 dX12_setByte_6 rfl rfl ?_
  refine z_icmp_geF hC (pc := 7) 15 dX12_setByte_7 (by decide) (by decide) ?_
  refine z_aload_n hC (pc := 10) 0 dX12_setByte_10 rfl rfl ?_
  refine z_iload_n hC (pc := 11) 1 dX12_setByte_11 rfl rfl ?_
  refine z_iload_n hC (pc := 12) 2 dX12_setByte_12 rfl rfl ?_
  refine z_i2b hC (pc := 13) (v := (x1).toInt8.toInt32) dX12_setByte_13 rfl ?_
  refine z_bast hC (pc := 14) (f' := (upd (upd (upd (upd (upd (upd (upd (upd (fun _ => 0) 0 x2) 1 x3) 2 x4) 3 x5) 4 x6) 5 x7) 6 x8) 7 (vp_nar .byte (x1).toInt8.toInt32))) 0 [(h0, .inl (G.2.1 1, 20, .inl (upd (upd (upd (upd (upd (upd (upd (upd (fun _ => 0) 0 x2) 1 x3) 2 x4) 3 x5) 4 x6) 5 x7) 6 x8) 7 (vp_nar .byte (x1).toInt8.toInt32))))] dX12_setByte_14 rfl (zvi rfl) rfl rfl ?_
  exact hR _ _ _ _ _ dX12_setByte_15 (Nat.le_of_ble_eq_true rfl) (Nat.le_of_ble_eq_true rfl) rfl
set_option maxRecDepth 100000 in
theorem kX12_fourReady_25 (l : Launch) (G : zG) (h0 : Nat) (h1 : Nat) (x2 : Int32) (g3 : Nat) (g4 : Nat) (g5 : Nat) (g6 : Nat) (g7 : Nat) (g8 : Nat) (g9 : Nat) (g10 : Nat) (g11 : Nat) (g12 : Nat) (x13 : Int32) (x14 : Int32) (x15 : Int32) (x16 : Int32) : zMv l G yX12_fourReady cX12_fourReady 4 1 22 0 0 [.ref h0, .int 4, .int x2] [(h0, .inr (12, [.ref h1, .ref g3, .int 0, .ref g4, .ref g5, .ref g6, .ref g7, .ref g8, .ref g9, .ref g10, .ref g11, .ref g12, .int 0, .int 0, .int (-1), .int (-1), .int 0, .int 0, .int 0])), (h1, .inl (G.2.1 1, 20, .inl (upd (upd (upd (upd (fun _ => 0) 0 x13) 1 x14) 2 x15) 3 x16)))] (fun w => w = [(h0, .inr (12, [.ref h1, .ref g3, .int 0, .ref g4, .ref g5, .ref g6, .ref g7, .ref g8, .ref g9, .ref g10, .ref g11, .ref g12, .int 0, .int 0, .int (-1), .int (-1), .int 0, .int 0, .int 0])), (h1, .inl (G.2.1 1, 20, .inl (upd (upd (upd (upd (upd (upd (upd (upd (fun _ => 0) 0 x13) 1 x14) 2 x15) 3 x16) 4 (vp_nar .byte (((x2 : Int32).toUInt32 >>> ((24 : Int32).toUInt32 &&& Int32.toUInt32 31)).toInt32).toInt8.toInt32)) 5 (vp_nar .byte (((x2 : Int32).toUInt32 >>> ((16 : Int32).toUInt32 &&& Int32.toUInt32 31)).toInt32).toInt8.toInt32)) 6 (vp_nar .byte (((x2 : Int32).toUInt32 >>> ((8 : Int32).toUInt32 &&& Int32.toUInt32 31)).toInt32).toInt8.toInt32)) 7 (vp_nar .byte (((x2 : Int32).toUInt32 >>> ((0 : Int32).toUInt32 &&& Int32.toUInt32 31)).toInt32).toInt8.toInt32))))]) := by
  refine zMv.intro (by decide) (Nat.le_of_ble_eq_true rfl) (fun X hC hR => ?_)
  refine z_iconst hC (pc := 0) (v := 0) dX12_fourReady_0 (by decide) ?_
  refine z_istore_n hC (pc := 1) (lv' := [(3, .int 0), (0, .ref h0), (1, .int 4), (2, .int x2)]) dX12_fourReady_1 rfl (by decide) rfl ?_
  refine z_iload_n hC (pc := 2) 0 dX12_fourReady_2 rfl rfl ?_
  refine z_iconst hC (pc := 3) (v := 4) dX12_fourReady_3 (by decide) ?_
  refine z_icmp_geF hC (pc := 4) 32 dX12_fourReady_4 (by decide) (by decide) ?_
  refine z_aload_n hC (pc := 7) 1 dX12_fourReady_7 rfl rfl ?_
  refine z_get hC (pc := 8) zf12 0 0 dX12_fourReady_8 zw708 rfl rfl (kk := ?_)
  refine z_iload_n hC (pc := 11) 2 dX12_fourReady_11 rfl rfl ?_
  refine z_iload_n hC (pc := 12) 0 dX12_fourReady_12 rfl rfl ?_
  refine z_iadd hC (pc := 13) (v := 4) dX12_fourReady_13 (by decide) ?_
  refine z_iload_n hC (pc := 14) 3 dX12_fourReady_14 rfl rfl ?_
  refine z_bipush hC (pc := 15) (v := 24) dX12_fourReady_15 (by decide) ?_
  refine z_bipush hC (pc := 17) (v := 8) dX12_fourReady_17 (by decide) ?_
  refine z_iload_n hC (pc := 19) 0 dX12_fourReady_19 rfl rfl ?_
  refine z_imul hC (pc := 20) (v := 0) dX12_fourReady_20 (by decide) ?_
  refine z_isub hC (pc := 21) (v := 24) dX12_fourReady_21 (by decide) ?_
  refine z_iushr hC (pc := 22) (v := ((x2 : Int32).toUInt32 >>> ((24 : Int32).toUInt32 &&& Int32.toUInt32 31)).toInt32) dX12_fourReady_22 rfl ?_
  refine z_callSv hC (pc := 23) (k := 0) (n := 0) (As := [.ref h1, .int 4, .int (((x2 : Int32).toUInt32 >>> ((24 : Int32).toUInt32 &&& Int32.toUInt32 31)).toInt32)]) (wr := [(h0, .inr (12, [.ref h1, .ref g3, .int 0, .ref g4, .ref g5, .ref g6, .ref g7, .ref g8, .ref g9, .ref g10, .ref g11, .ref g12, .int 0, .int 0, .int (-1), .int (-1), .int 0, .int 0, .int 0]))]) (kX12_setByte_21 l G h1 ((x2 : Int32).toUInt32 >>> ((24 : Int32).toUInt32 &&& Int32.toUInt32 31)).toInt32 x13 x14 x15 x16) dmX12_setByte [1] [0] rfl rfl rfl dX12_fourReady_23 zw774 rfl rfl (Nat.le_of_ble_eq_true rfl) (Nat.le_of_ble_eq_true rfl) (Nat.le_of_ble_eq_true rfl) (Nat.le_of_ble_eq_true rfl) (Nat.le_of_ble_eq_true rfl) (fun w hp => ?_)
  obtain rfl := hp
  refine z_iinc hC (pc := 26) (v := 1) (lv' := [(3, .int 1), (0, .ref h0), (1, .int 4), (2, .int x2)]) 0 dX12_fourReady_26 rfl (by decide) (by decide) rfl ?_
  refine z_goto hC (pc := 29) 2 dX12_fourReady_29 (by decide) ?_
  refine z_iload_n hC (pc := 2) 0 dX12_fourReady_2 rfl rfl ?_
  refine z_iconst hC (pc := 3) (v := 4) dX12_fourReady_3 (by decide) ?_
  refine z_icmp_geF hC (pc := 4) 32 dX12_fourReady_4 (by decide) (by decide) ?_
  refine z_aload_n hC (pc := 7) 1 dX12_fourReady_7 rfl rfl ?_
  refine z_get hC (pc := 8) zf12 0 0 dX12_fourReady_8 zw708 rfl rfl (kk := ?_)
  refine z_iload_n hC (pc := 11) 2 dX12_fourReady_11 rfl rfl ?_
  refine z_iload_n hC (pc := 12) 0 dX12_fourReady_12 rfl rfl ?_
  refine z_iadd hC (pc := 13) (v := 5) dX12_fourReady_13 (by decide) ?_
  refine z_iload_n hC (pc := 14) 3 dX12_fourReady_14 rfl rfl ?_
  refine z_bipush hC (pc := 15) (v := 24) dX12_fourReady_15 (by decide) ?_
  refine z_bipush hC (pc := 17) (v := 8) dX12_fourReady_17 (by decide) ?_
  refine z_iload_n hC (pc := 19) 0 dX12_fourReady_19 rfl rfl ?_
  refine z_imul hC (pc := 20) (v := 8) dX12_fourReady_20 (by decide) ?_
  refine z_isub hC (pc := 21) (v := 16) dX12_fourReady_21 (by decide) ?_
  refine z_iushr hC (pc := 22) (v := ((x2 : Int32).toUInt32 >>> ((16 : Int32).toUInt32 &&& Int32.toUInt32 31)).toInt32) dX12_fourReady_22 rfl ?_
  refine z_callSv hC (pc := 23) (k := 0) (n := 0) (As := [.ref h1, .int 5, .int (((x2 : Int32).toUInt32 >>> ((16 : Int32).toUInt32 &&& Int32.toUInt32 31)).toInt32)]) (wr := [(h0, .inr (12, [.ref h1, .ref g3, .int 0, .ref g4, .ref g5, .ref g6, .ref g7, .ref g8, .ref g9, .ref g10, .ref g11, .ref g12, .int 0, .int 0, .int (-1), .int (-1), .int 0, .int 0, .int 0]))]) (kX12_setByte_22 l G h1 ((x2 : Int32).toUInt32 >>> ((16 : Int32).toUInt32 &&& Int32.toUInt32 31)).toInt32 x13 x14 x15 x16 (vp_nar .byte (((x2 : Int32).toUInt32 >>> ((24 : Int32).toUInt32 &&& Int32.toUInt32 31)).toInt32).toInt8.toInt32)) dmX12_setByte [1] [0] rfl rfl rfl dX12_fourReady_23 zw774 rfl rfl (Nat.le_of_ble_eq_true rfl) (Nat.le_of_ble_eq_true rfl) (Nat.le_of_ble_eq_true rfl) (Nat.le_of_ble_eq_true rfl) (Nat.le_of_ble_eq_true rfl) (fun w hp => ?_)
  obtain rfl := hp
  refine z_iinc hC (pc := 26) (v := 2) (lv' := [(3, .int 2), (0, .ref h0), (1, .int 4), (2, .int x2)]) 0 dX12_fourReady_26 rfl (by decide) (by decide) rfl ?_
  refine z_goto hC (pc := 29) 2 dX12_fourReady_29 (by decide) ?_
  refine z_iload_n hC (pc := 2) 0 dX12_fourReady_2 rfl rfl ?_
  refine z_iconst hC (pc := 3) (v := 4) dX12_fourReady_3 (by decide) ?_
  refine z_icmp_geF hC (pc := 4) 32 dX12_fourReady_4 (by decide) (by decide) ?_
  refine z_aload_n hC (pc := 7) 1 dX12_fourReady_7 rfl rfl ?_
  refine z_get hC (pc := 8) zf12 0 0 dX12_fourReady_8 zw708 rfl rfl (kk := ?_)
  refine z_iload_n hC (pc := 11) 2 dX12_fourReady_11 rfl rfl ?_
  refine z_iload_n hC (pc := 12) 0 dX12_fourReady_12 rfl rfl ?_
  refine z_iadd hC (pc := 13) (v := 6) dX12_fourReady_13 (by decide) ?_
  refine z_iload_n hC (pc := 14) 3 dX12_fourReady_14 rfl rfl ?_
  refine z_bipush hC (pc := 15) (v := 24) dX12_fourReady_15 (by decide) ?_
  refine z_bipush hC (pc := 17) (v := 8) dX12_fourReady_17 (by decide) ?_
  refine z_iload_n hC (pc := 19) 0 dX12_fourReady_19 rfl rfl ?_
  refine z_imul hC (pc := 20) (v := 16) dX12_fourReady_20 (by decide) ?_
  refine z_isub hC (pc := 21) (v := 8) dX12_fourReady_21 (by decide) ?_
  refine z_iushr hC (pc := 22) (v := ((x2 : Int32).toUInt32 >>> ((8 : Int32).toUInt32 &&& Int32.toUInt32 31)).toInt32) dX12_fourReady_22 rfl ?_
  refine z_callSv hC (pc := 23) (k := 0) (n := 0) (As := [.ref h1, .int 6, .int (((x2 : Int32).toUInt32 >>> ((8 : Int32).toUInt32 &&& Int32.toUInt32 31)).toInt32)]) (wr := [(h0, .inr (12, [.ref h1, .ref g3, .int 0, .ref g4, .ref g5, .ref g6, .ref g7, .ref g8, .ref g9, .ref g10, .ref g11, .ref g12, .int 0, .int 0, .int (-1), .int (-1), .int 0, .int 0, .int 0]))]) (kX12_setByte_23 l G h1 ((x2 : Int32).toUInt32 >>> ((8 : Int32).toUInt32 &&& Int32.toUInt32 31)).toInt32 x13 x14 x15 x16 (vp_nar .byte (((x2 : Int32).toUInt32 >>> ((24 : Int32).toUInt32 &&& Int32.toUInt32 31)).toInt32).toInt8.toInt32) (vp_nar .byte (((x2 : Int32).toUInt32 >>> ((16 : Int32).toUInt32 &&& Int32.toUInt32 31)).toInt32).toInt8.toInt32)) dmX12_setByte [1] [0] rfl rfl rfl dX12_fourReady_23 zw774 rfl rfl (Nat.le_of_ble_eq_true rfl) (Nat.le_of_ble_eq_true rfl) (Nat.le_of_ble_eq_true rfl) (Nat.le_of_ble_eq_true rfl) (Nat.le_of_ble_eq_true rfl) (fun w hp => ?_)
  obtain rfl := hp
  refine z_iinc hC (pc := 26) (v := 3) (lv' := [(3, .int 3), (0, .ref h0), (1, .int 4), (2, .int x2)]) 0 dX12_fourReady_26 rfl (by decide) (by decide) rfl ?_
  refine z_goto hC (pc := 29) 2 dX12_fourReady_29 (by decide) ?_
  refine z_iload_n hC (pc := 2) 0 dX12_fourReady_2 rfl rfl ?_
  refine z_iconst hC (pc := 3) (v := 4) dX12_fourReady_3 (by decide) ?_
  refine z_icmp_geF hC (pc := 4) 32 dX12_fourReady_4 (by decide) (by decide) ?_
  refine z_aload_n hC (pc := 7) 1 dX12_fourReady_7 rfl rfl ?_
  refine z_get hC (pc := 8) zf12 0 0 dX12_fourReady_8 zw708 rfl rfl (kk := ?_)
  refine z_iload_n hC (pc := 11) 2 dX12_fourReady_11 rfl rfl ?_
  refine z_iload_n hC (pc := 12) 0 dX12_fourReady_12 rfl rfl ?_
  refine z_iadd hC (pc := 13) (v := 7) dX12_fourReady_13 (by decide) ?_
  refine z_iload_n hC (pc := 14) 3 dX12_fourReady_14 rfl rfl ?_
  refine z_bipush hC (pc := 15) (v := 24) dX12_fourReady_15 (by decide) ?_
  refine z_bipush hC (pc := 17) (v := 8) dX12_fourReady_17 (by decide) ?_
  refine z_iload_n hC (pc := 19) 0 dX12_fourReady_19 rfl rfl ?_
  refine z_imul hC (pc := 20) (v := 24) dX12_fourReady_20 (by decide) ?_
  refine z_isub hC (pc := 21) (v := 0) dX12_fourReady_21 (by decide) ?_
  refine z_iushr hC (pc := 22) (v := ((x2 : Int32).toUInt32 >>> ((0 : Int32).toUInt32 &&& Int32.toUInt32 31)).toInt32) dX12_fourReady_22 rfl ?_
  refine z_callSv hC (pc := 23) (k := 0) (n := 0) (As := [.ref h1, .int 7, .int (((x2 : Int32).toUInt32 >>> ((0 : Int32).toUInt32 &&& Int32.toUInt32 31)).toInt32)]) (wr := [(h0, .inr (12, [.ref h1, .ref g3, .int 0, .ref g4, .ref g5, .ref g6, .ref g7, .ref g8, .ref g9, .ref g10, .ref g11, .ref g12, .int 0, .int 0, .int (-1), .int (-1), .int 0, .int 0, .int 0]))]) (kX12_setByte_24 l G h1 ((x2 : Int32).toUInt32 >>> ((0 : Int32).toUInt32 &&& Int32.toUInt32 31)).toInt32 x13 x14 x15 x16 (vp_nar .byte (((x2 : Int32).toUInt32 >>> ((24 : Int32).toUInt32 &&& Int32.toUInt32 31)).toInt32).toInt8.toInt32) (vp_nar .byte (((x2 : Int32).toUInt32 >>> ((16 : Int32).toUInt32 &&& Int32.toUInt32 31)).toInt32).toInt8.toInt32) (vp_nar .byte (((x2 : Int32).toUInt32 >>> ((8 : Int32).toUInt32 &&& Int32.toUInt32 31)).toInt32).toInt8.toInt32)) dmX12_setByte [1] [0] rfl rfl rfl dX12_fourReady_23 zw774 rfl rfl (Nat.le_of_ble_eq_true rfl) (Nat.le_of_ble_eq_true rfl) (Nat.le_of_ble_eq_true rfl) (Nat.le_of_ble_eq_true rfl) (Nat.le_of_ble_eq_true rfl) (fun w hp => ?_)
  obtain rfl := hp
  refine z_iinc hC (pc := 26) (v := 4) (lv' := [(3, .int 4), (0, .ref h0), (1, .int 4), (2, .int x2)]) 0 dX12_fourReady_26 rfl (by decide) (by decide) rfl ?_
  refine z_goto hC (pc := 29) 2 dX12_fourReady_29 (by decide) ?_
  refine z_iload_n hC (pc := 2) 0 dX12_fourReady_2 rfl rfl ?_
  refine z_iconst hC (pc := 3) (v := 4) dX12_fourReady_3 (by decide) ?_
  refine z_icmp_geT hC (pc := 4) 32 dX12_fourReady_4 (by decide) (by decide) ?_
  exact hR _ _ _ _ _ dX12_fourReady_32 (Nat.le_of_ble_eq_true rfl) (Nat.le_of_ble_eq_true rfl) rfl
set_option maxRecDepth 100000 in
theorem kX12_setByte_26 (l : Launch) (G : zG) (h0 : Nat) (x1 : Int32) (x2 : Int32) (x3 : Int32) (x4 : Int32) (x5 : Int32) (x6 : Int32) (x7 : Int32) (x8 : Int32) (x9 : Int32) : zMv l G yX12_setByte cX12_setByte 3 0 0 0 0 [.ref h0, .int 8, .int x1] [(h0, .inl (G.2.1 1, 20, .inl (upd (upd (upd (upd (upd (upd (upd (upd (fun _ => 0) 0 x2) 1 x3) 2 x4) 3 x5) 4 x6) 5 x7) 6 x8) 7 x9)))] (fun w => w = [(h0, .inl (G.2.1 1, 20, .inl (upd (upd (upd (upd (upd (upd (upd (upd (upd (fun _ => 0) 0 x2) 1 x3) 2 x4) 3 x5) 4 x6) 5 x7) 6 x8) 7 x9) 8 (vp_nar .byte (x1).toInt8.toInt32))))]) := by
  refine zMv.intro (by decide) (Nat.le_of_ble_eq_true rfl) (fun X hC hR => ?_)
  refine z_iload_n hC (pc := 0) 1 dX12_setByte_0 rfl rfl ?_
  refine z_if_ltF hC (pc := 1) 15 dX12_setByte_1 (by decide) (by decide) ?_
  refine z_iload_n hC (pc := 4) 1 dX12_setByte_4 rfl rfl ?_
  refine z_aload_n hC (pc := 5) 0 dX12_setByte_5 rfl rfl ?_
  refine z_alen1 hC (pc := 6) (v := 20) 0 dX12_setByte_6 rfl rfl ?_
  refine z_icmp_geF hC (pc := 7) 15 dX12_setByte_7 (by decide) (by decide) ?_
  refine z_aload_n hC (pc := 10) 0 dX12_setByte_10 rfl rfl ?_
  refine z_iload_n hC (pc := 11) 1 dX12_setByte_11 rfl rfl ?_
  refine z_iload_n hC (pc := 12) 2 dX12_setByte_12 rfl rfl ?_
  refine z_i2b hC (pc := 13) (v := (x1).toInt8.toInt32) dX12_setByte_13 rfl ?_
  refine z_bast hC (pc := 14) (f' := (upd (upd (upd (upd (upd (upd (upd (upd (upd (fun _ => 0) 0 x2) 1 x3) 2 x4) 3 x5) 4 x6) 5 x7) 6 x8) 7 x9) 8 (vp_nar .byte (x1).toInt8.toInt32))) 0 [(h0, .inl (G.2.1 1, 20, .inl (upd (upd (upd (upd (upd (upd (upd (upd (upd (fun _ => 0) 0 x2) 1 x3) 2 x4) 3 x5) 4 x6) 5 x7) 6 x8) 7 x9) 8 (vp_nar .byte (x1).toInt8.toInt32))))] dX12_setByte_14 rfl (zvi rfl) rfl rfl ?_
  exact hR _ _ _ _ _ dX12_setByte_15 (Nat.le_of_ble_eq_true rfl) (Nat.le_of_ble_eq_true rfl) rfl
set_option maxRecDepth 100000 in
theorem kX12_setByte_27 (l : Launch) (G : zG) (h0 : Nat) (x1 : Int32) (x2 : Int32) (x3 : Int32) (x4 : Int32) (x5 : Int32) (x6 : Int32) (x7 : Int32) (x8 : Int32) (x9 : Int32) (x10 : Int32) : zMv l G yX12_setByte cX12_setByte 3 0 0 0 0 [.ref h0, .int 9, .int x1] [(h0, .inl (G.2.1 1, 20, .inl (upd (upd (upd (upd (upd (upd (upd (upd (upd (fun _ => 0) 0 x2) 1 x3) 2 x4) 3 x5) 4 x6) 5 x7) 6 x8) 7 x9) 8 x10)))] (fun w => w = [(h0, .inl (G.2.1 1, 20, .inl (upd (upd (upd (upd (upd (upd (upd (upd (upd (upd (fun _ => 0) 0 x2) 1 x3) 2 x4) 3 x5) 4 x6) 5 x7) 6 x8) 7 x9) 8 x10) 9 (vp_nar .byte (x1).toInt8.toInt32))))]) := by
  refine zMv.intro (by decide) (Nat.le_of_ble_eq_true rfl) (fun X hC hR => ?_)
  refine z_iload_n hC (pc := 0) 1 dX12_setByte_0 rfl rfl ?_
  refine z_if_ltF hC (pc := 1) 15 dX12_setByte_1 (by decide) (by decide) ?_
  refine z_iload_n hC (pc := 4) 1 dX12_setByte_4 rfl rfl ?_
  refine z_aload_n hC (pc := 5) 0 dX12_setByte_5 rfl rfl ?_
  refine z_alen1 hC (pc := 6) (v := 20) 0 dX12_setByte_6 rfl rfl ?_
  refine z_icmp_geF hC (pc := 7) 15 dX12_setByte_7 (by decide) (by decide) ?_
  refine z_aload_n hC (pc := 10) 0 dX12_setByte_10 rfl rfl ?_
  refine z_iload_n hC (pc := 11) 1 dX12_setByte_11 rfl rfl ?_
  refine z_iload_n hC (pc := 12) 2 dX12_setByte_12 rfl rfl ?_
  refine z_i2b hC (pc := 13) (v := (x1).toInt8.toInt32) dX12_setByte_13 rfl ?_
  refine z_bast hC (pc := 14) (f' := (upd (upd (upd (upd (upd (upd (upd (upd (upd (upd (fun _ => 0) 0 x2) 1 x3) 2 x4) 3 x5) 4 x6) 5 x7) 6 x8) 7 x9) 8 x10) 9 (vp_nar .byte (x1).toInt8.toInt32))) 0 [(h0, .inl (G.2.1 1, 20, .inl (upd (upd (upd (upd (upd (upd (upd (upd (upd (upd (fun _ => 0) 0 x2) 1 x3) 2 x4) 3 x5) 4 x6) 5 x7) 6 x8) 7 x9) 8 x10) 9 (vp_nar .byte (x1).toInt8.toInt32))))] dX12_setByte_14 rfl (zvi rfl) rfl rfl ?_
  exact hR _ _ _ _ _ dX12_setByte_15 (Nat.le_of_ble_eq_true rfl) (Nat.le_of_ble_eq_true rfl) rfl
set_option maxRecDepth 100000 in
theorem kX12_setByte_28 (l : Launch) (G : zG) (h0 : Nat) (x1 : Int32) (x2 : Int32) (x3 : Int32) (x4 : Int32) (x5 : Int32) (x6 : Int32) (x7 : Int32) (x8 : Int32) (x9 : Int32) (x10 : Int32) (x11 : Int32) : zMv l G yX12_setByte cX12_setByte 3 0 0 0 0 [.ref h0, .int 10, .int x1] [(h0, .inl (G.2.1 1, 20, .inl (upd (upd (upd (upd (upd (upd (upd (upd (upd (upd (fun _ => 0) 0 x2) 1 x3) 2 x4) 3 x5) 4 x6) 5 x7) 6 x8) 7 x9) 8 x10) 9 x11)))] (fun w => w = [(h0, .inl (G.2.1 1, 20, .inl (upd (upd (upd (upd (upd (upd (upd (upd (upd (upd (upd (fun _ => 0) 0 x2) 1 x3) 2 x4) 3 x5) 4 x6) 5 x7) 6 x8) 7 x9) 8 x10) 9 x11) 10 (vp_nar .byte (x1).toInt8.toInt32))))]) := by
  refine zMv.intro (by decide) (Nat.le_of_ble_eq_true rfl) (fun X hC hR => ?_)
  refine z_iload_n hC (pc := 0) 1 dX12_setByte_0 rfl rfl ?_
  refine z_if_ltF hC (pc := 1) 15 dX12_setByte_1 (by decide) (by decide) ?_
  refine z_iload_n hC (pc := 4) 1 dX12_setByte_4 rfl rfl ?_
  refine z_aload_n hC (pc := 5) 0 dX12_setByte_5 rfl rfl ?_
  refine z_alen1 hC (pc := 6) (v := 20) 0 dX12_setByte_6 rfl rfl ?_
  refine z_icmp_geF hC (pc := 7) 15 dX12_setByte_7 (by decide) (by decide) ?_
  refine z_aload_n hC (pc := 10) 0 dX12_setByte_10 rfl rfl ?_
  refine z_iload_n hC (pc := 11) 1 dX12_setByte_11 rfl rfl ?_
  refine z_iload_n hC (pc := 12) 2 dX12_setByte_12 rfl rfl ?_
  refine z_i2b hC (pc := 13) (v := (x1).toInt8.toInt32) dX12_setByte_13 rfl ?_
  refine z_bast hC (pc := 14) (f' := (upd (upd (upd (upd (upd (upd (upd (upd (upd (upd (upd (fun _ => 0) 0 x2) 1 x3) 2 x4) 3 x5) 4 x6) 5 x7) 6 x8) 7 x9) 8 x10) 9 x11) 10 (vp_nar .byte (x1).toInt8.toInt32))) 0 [(h0, .inl (G.2.1 1, 20, .inl (upd (upd (upd (upd (upd (upd (upd (upd (upd (upd (upd (fun _ => 0) 0 x2) 1 x3) 2 x4) 3 x5) 4 x6) 5 x7) 6 x8) 7 x9) 8 x10) 9 x11) 10 (vp_nar .byte (x1).toInt8.toInt32))))] dX12_setByte_14 rfl (zvi rfl) rfl rfl ?_
  exact hR _ _ _ _ _ dX12_setByte_15 (Nat.le_of_ble_eq_true rfl) (Nat.le_of_ble_eq_true rfl) rfl
set_option maxRecDepth 100000 in
theorem kX12_setByte_29 (l : Launch) (G : zG) (h0 : Nat) (x1 : Int32) (x2 : Int32) (x3 : Int32) (x4 : Int32) (x5 : Int32) (x6 : Int32) (x7 : Int32) (x8 : Int32) (x9 : Int32) (x10 : Int32) (x11 : Int32) (x12 : Int32) : zMv l G yX12_setByte cX12_setByte 3 0 0 0 0 [.ref h0, .int 11, .int x1] [(h0, .inl (G.2.1 1, 20, .inl (upd (upd (upd (upd (upd (upd (upd (upd (upd (upd (upd (fun _ => 0) 0 x2) 1 x3) 2 x4) 3 x5) 4 x6) 5 x7) 6 x8) 7 x9) 8 x10) 9 x11) 10 x12)))] (fun w => w = [(h0, .inl (G.2.1 1, 20, .inl (upd (upd (upd (upd (upd (upd (upd (upd (upd (upd (upd (upd (fun _ => 0) 0 x2) 1 x3) 2 x4) 3 x5) 4 x6) 5 x7) 6 x8) 7 x9) 8 x10) 9 x11) 10 x12) 11 (vp_nar .byte (x1).toInt8.toInt32))))]) := by
  refine zMv.intro (by decide) (Nat.le_of_ble_eq_true rfl) (fun X hC hR => ?_)
  refine z_iload_n hC (pc := 0) 1 dX12_setByte_0 rfl rfl ?_
  refine z_if_ltF hC (pc := 1) 15 dX12_setByte_1 (by decide) (by decide) ?_
  refine z_iload_n hC (pc := 4) 1 dX12_setByte_4 rfl rfl ?_
  refine z_aload_n hC (pc := 5) 0 dX12_setByte_5 rfl rfl ?_
  refine z_alen1 hC (pc := 6) (v := 20) 0 dX12_setByte_6 rfl rfl ?_
  refine z_icmp_geF hC (pc := 7) 15 dX12_setByte_7 (by decide) (by decide) ?_
  refine z_aload_n hC (pc := 10) 0 dX12_setByte_10 rfl rfl ?_
  refine z_iload_n hC (pc := 11) 1 dX12_setByte_11 rfl rfl ?_
  refine z_iload_n hC (pc := 12) 2 dX12_setByte_12 rfl rfl ?_
  refine z_i2b hC (pc := 13) (v := (x1).toInt8.toInt32) dX12_setByte_13 rfl ?_
  refine z_bast hC (pc := 14) (f' := (upd (upd (upd (upd (upd (upd (upd (upd (upd (upd (upd (upd (fun _ => 0) 0 x2) 1 x3) 2 x4) 3 x5) 4 x6) 5 x7) 6 x8) 7 x9) 8 x10) 9 x11) 10 x12) 11 (vp_nar .byte (x1).toInt8.toInt32))) 0 [(h0, .inl (G.2.1 1, 20, .inl (upd (upd (upd (upd (upd (upd (upd (upd (upd (upd (upd (upd (fun _ => 0) 0 x2) 1 x3) 2 x4) 3 x5) 4 x6) 5 x7) 6 x8) 7 x9) 8 x10) 9 x11) 10 x12) 11 (vp_nar .byte (x1).toInt8.toInt32))))] dX12_setByte_14 rfl (zvi rfl) rfl rfl ?_
  exact hR _ _ _ _ _ dX12_setByte_15 (Nat.le_of_ble_eq_true rfl) (Nat.le_of_ble_eq_true rfl) rfl
set_option maxRecDepth 100000 in
theorem kX12_fourReady_30 (l : Launch) (G : zG) (h0 : Nat) (h1 : Nat) (x2 : Int32) (g3 : Nat) (g4 : Nat) (g5 : Nat) (g6 : Nat) (g7 : Nat) (g8 : Nat) (g9 : Nat) (g10 : Nat) (g11 : Nat) (g12 : Nat) (x13 : Int32) (x14 : Int32) (x15 : Int32) (x16 : Int32) (x17 : Int32) (x18 : Int32) (x19 : Int32) (x20 : Int32) : zMv l G yX12_fourReady cX12_fourReady 4 1 22 0 0 [.ref h0, .int 8, .int x2] [(h0, .inr (12, [.ref h1, .ref g3, .int 0, .ref g4, .ref g5, .ref g6, .ref g7, .ref g8, .ref g9, .ref g10, .ref g11, .ref g12, .int 0, .int 0, .int (-1), .int (-1), .int 0, .int 0, .int 0])), (h1, .inl (G.2.1 1, 20, .inl (upd (upd (upd (upd (upd (upd (upd (upd (fun _ => 0) 0 x13) 1 x14) 2 x15) 3 x16) 4 x17) 5 x18) 6 x19) 7 x20)))] (fun w => w = [(h0, .inr (12, [.ref h1, .ref g3, .int 0, .ref g4, .ref g5, .ref g6, .ref g7, .ref g8, .ref g9, .ref g10, .ref g11, .ref g12, .int 0, .int 0, .int (-1), .int (-1), .int 0, .int 0, .int 0])), (h1, .inl (G.2.1 1, 20, .inl (upd (upd (upd (upd (upd (upd (upd (upd (upd (upd (upd (upd (fun _ => 0) 0 x13) 1 x14) 2 x15) 3 x16) 4 x17) 5 x18) 6 x19) 7 x20) 8 (vp_nar .byte (((x2 : Int32).toUInt32 >>> ((24 : Int32).toUInt32 &&& Int32.toUInt32 31)).toInt32).toInt8.toInt32)) 9 (vp_nar .byte (((x2 : Int32).toUInt32 >>> ((16 : Int32).toUInt32 &&& Int32.toUInt32 31)).toInt32).toInt8.toInt32)) 10 (vp_nar .byte (((x2 : Int32).toUInt32 >>> ((8 : Int32).toUInt32 &&& Int32.toUInt32 31)).toInt32).toInt8.toInt32)) 11 (vp_nar .byte (((x2 : Int32).toUInt32 >>> ((0 : Int32).toUInt32 &&& Int32.toUInt32 31)).toInt32).toInt8.toInt32))))]) := by
  refine zMv.intro (by decide) (Nat.le_of_ble_eq_true rfl) (fun X hC hR => ?_)
  refine z_iconst hC (pc := 0) (v := 0) dX12_fourReady_0 (by decide) ?_
  refine z_istore_n hC (pc := 1) (lv' := [(3, .int 0), (0, .ref h0), (1, .int 8), (2, .int x2)]) dX12_fourReady_1 rfl (by decide) rfl ?_
  refine z_iload_n hC (pc := 2) 0 dX12_fourReady_2 rfl rfl ?_
  refine z_iconst hC (pc := 3) (v := 4) dX12_fourReady_3 (by decide) ?_
  refine z_icmp_geF hC (pc := 4) 32 dX12_fourReady_4 (by decide) (by decide) ?_
  refine z_aload_n hC (pc := 7) 1 dX12_fourReady_7 rfl rfl ?_
  refine z_get hC (pc := 8) zf12 0 0 dX12_fourReady_8 zw708 rfl rfl (kk := ?_)
  refine z_iload_n hC (pc := 11) 2 dX12_fourReady_11 rfl rfl ?_
  refine z_iload_n hC (pc := 12) 0 dX12_fourReady_12 rfl rfl ?_
  refine z_iadd hC (pc := 13) (v := 8) dX12_fourReady_13 (by decide) ?_
  refine z_iload_n hC (pc := 14) 3 dX12_fourReady_14 rfl rfl ?_
  refine z_bipush hC (pc := 15) (v := 24) dX12_fourReady_15 (by decide) ?_
  refine z_bipush hC (pc := 17) (v := 8) dX12_fourReady_17 (by decide) ?_
  refine z_iload_n hC (pc := 19) 0 dX12_fourReady_19 rfl rfl ?_
  refine z_imul hC (pc := 20) (v := 0) dX12_fourReady_20 (by decide) ?_
  refine z_isub hC (pc := 21) (v := 24) dX12_fourReady_21 (by decide) ?_
  refine z_iushr hC (pc := 22) (v := ((x2 : Int32).toUInt32 >>> ((24 : Int32).toUInt32 &&& Int32.toUInt32 31)).toInt32) dX12_fourReady_22 rfl ?_
  refine z_callSv hC (pc := 23) (k := 0) (n := 0) (As := [.ref h1, .int 8, .int (((x2 : Int32).toUInt32 >>> ((24 : Int32).toUInt32 &&& Int32.toUInt32 31)).toInt32)]) (wr := [(h0, .inr (12, [.ref h1, .ref g3, .int 0, .ref g4, .ref g5, .ref g6, .ref g7, .ref g8, .ref g9, .ref g10, .ref g11, .ref g12, .int 0, .int 0, .int (-1), .int (-1), .int 0, .int 0, .int 0]))]) (kX12_setByte_26 l G h1 ((x2 : Int32).toUInt32 >>> ((24 : Int32).toUInt32 &&& Int32.toUInt32 31)).toInt32 x13 x14 x15 x16 x17 x18 x19 x20) dmX12_setByte [1] [0] rfl rfl rfl dX12_fourReady_23 zw774 rfl rfl (Nat.le_of_ble_eq_true rfl) (Nat.le_of_ble_eq_true rfl) (Nat.le_of_ble_eq_true rfl) (Nat.le_of_ble_eq_true rfl) (Nat.le_of_ble_eq_true rfl) (fun w hp => ?_)
  obtain rfl := hp
  refine z_iinc hC (pc := 26) (v := 1) (lv' := [(3, .int 1), (0, .ref h0), (1, .int 8), (2, .int x2)]) 0 dX12_fourReady_26 rfl (by decide) (by decide) rfl ?_
  refine z_goto hC (pc := 29) 2 dX12_fourReady_29 (by decide) ?_
  refine z_iload_n hC (pc := 2) 0 dX12_fourReady_2 rfl rfl ?_
  refine z_iconst hC (pc := 3) (v := 4) dX12_fourReady_3 (by decide) ?_
  refine z_icmp_geF hC (pc := 4) 32 dX12_fourReady_4 (by decide) (by decide) ?_
  refine z_aload_n hC (pc := 7) 1 dX12_fourReady_7 rfl rfl ?_
  refine z_get hC (pc := 8) zf12 0 0 dX12_fourReady_8 zw708 rfl rfl (kk := ?_)
  refine z_iload_n hC (pc := 11) 2 dX12_fourReady_11 rfl rfl ?_
  refine z_iload_n hC (pc := 12) 0 dX12_fourReady_12 rfl rfl ?_
  refine z_iadd hC (pc := 13) (v := 9) dX12_fourReady_13 (by decide) ?_
  refine z_iload_n hC (pc := 14) 3 dX12_fourReady_14 rfl rfl ?_
  refine z_bipush hC (pc := 15) (v := 24) dX12_fourReady_15 (by decide) ?_
  refine z_bipush hC (pc := 17) (v := 8) dX12_fourReady_17 (by decide) ?_
  refine z_iload_n hC (pc := 19) 0 dX12_fourReady_19 rfl rfl ?_
  refine z_imul hC (pc := 20) (v := 8) dX12_fourReady_20 (by decide) ?_
  refine z_isub hC (pc := 21) (v := 16) dX12_fourReady_21 (by decide) ?_
  refine z_iushr hC (pc := 22) (v := ((x2 : Int32).toUInt32 >>> ((16 : Int32).toUInt32 &&& Int32.toUInt32 31)).toInt32) dX12_fourReady_22 rfl ?_
  refine z_callSv hC (pc := 23) (k := 0) (n := 0) (As := [.ref h1, .int 9, .int (((x2 : Int32).toUInt32 >>> ((16 : Int32).toUInt32 &&& Int32.toUInt32 31)).toInt32)]) (wr := [(h0, .inr (12, [.ref h1, .ref g3, .int 0, .ref g4, .ref g5, .ref g6, .ref g7, .ref g8, .ref g9, .ref g10, .ref g11, .ref g12, .int 0, .int 0, .int (-1), .int (-1), .int 0, .int 0, .int 0]))]) (kX12_setByte_27 l G h1 ((x2 : Int32).toUInt32 >>> ((16 : Int32).toUInt32 &&& Int32.toUInt32 31)).toInt32 x13 x14 x15 x16 x17 x18 x19 x20 (vp_nar .byte (((x2 : Int32).toUInt32 >>> ((24 : Int32).toUInt32 &&& Int32.toUInt32 31)).toInt32).toInt8.toInt32)) dmX12_setByte [1] [0] rfl rfl rfl dX12_fourReady_23 zw774 rfl rfl (Nat.le_of_ble_eq_true rfl) (Nat.le_of_ble_eq_true rfl) (Nat.le_of_ble_eq_true rfl) (Nat.le_of_ble_eq_true rfl) (Nat.le_of_ble_eq_true rfl) (fun w hp => ?_)
  obtain rfl := hp
  refine z_iinc hC (pc := 26) (v := 2) (lv' := [(3, .int 2), (0, .ref h0), (1, .int 8), (2, .int x2)]) 0 dX12_fourReady_26 rfl (by decide) (by decide) rfl ?_
  refine z_goto hC (pc := 29) 2 dX12_fourReady_29 (by decide) ?_
  refine z_iload_n hC (pc := 2) 0 dX12_fourReady_2 rfl rfl ?_
  refine z_iconst hC (pc := 3) (v := 4) dX12_fourReady_3 (by decide) ?_
  refine z_icmp_geF hC (pc := 4) 32 dX12_fourReady_4 (by decide) (by decide) ?_
  refine z_aload_n hC (pc := 7) 1 dX12_fourReady_7 rfl rfl ?_
  refine z_get hC (pc := 8) zf12 0 0 dX12_fourReady_8 zw708 rfl rfl (kk := ?_)
  refine z_iload_n hC (pc := 11) 2 dX12_fourReady_11 rfl rfl ?_
  refine z_iload_n hC (pc := 12) 0 dX12_fourReady_12 rfl rfl ?_
  refine z_iadd hC (pc := 13) (v := 10) dX12_fourReady_13 (by decide) ?_
  refine z_iload_n hC (pc := 14) 3 dX12_fourReady_14 rfl rfl ?_
  refine z_bipush hC (pc := 15) (v := 24) dX12_fourReady_15 (by decide) ?_
  refine z_bipush hC (pc := 17) (v := 8) dX12_fourReady_17 (by decide) ?_
  refine z_iload_n hC (pc := 19) 0 dX12_fourReady_19 rfl rfl ?_
  refine z_imul hC (pc := 20) (v := 16) dX12_fourReady_20 (by decide) ?_
  refine z_isub hC (pc := 21) (v := 8) dX12_fourReady_21 (by decide) ?_
  refine z_iushr hC (pc := 22) (v := ((x2 : Int32).toUInt32 >>> ((8 : Int32).toUInt32 &&& Int32.toUInt32 31)).toInt32) dX12_fourReady_22 rfl ?_
  refine z_callSv hC (pc := 23) (k := 0) (n := 0) (As := [.ref h1, .int 10, .int (((x2 : Int32).toUInt32 >>> ((8 : Int32).toUInt32 &&& Int32.toUInt32 31)).toInt32)]) (wr := [(h0, .inr (12, [.ref h1, .ref g3, .int 0, .ref g4, .ref g5, .ref g6, .ref g7, .ref g8, .ref g9, .ref g10, .ref g11, .ref g12, .int 0, .int 0, .int (-1), .int (-1), .int 0, .int 0, .int 0]))]) (kX12_setByte_28 l G h1 ((x2 : Int32).toUInt32 >>> ((8 : Int32).toUInt32 &&& Int32.toUInt32 31)).toInt32 x13 x14 x15 x16 x17 x18 x19 x20 (vp_nar .byte (((x2 : Int32).toUInt32 >>> ((24 : Int32).toUInt32 &&& Int32.toUInt32 31)).toInt32).toInt8.toInt32) (vp_nar .byte (((x2 : Int32).toUInt32 >>> ((16 : Int32).toUInt32 &&& Int32.toUInt32 31)).toInt32).toInt8.toInt32)) dmX12_setByte [1] [0] rfl rfl rfl dX12_fourReady_23 zw774 rfl rfl (Nat.le_of_ble_eq_true rfl) (Nat.le_of_ble_eq_true rfl) (Nat.le_of_ble_eq_true rfl) (Nat.le_of_ble_eq_true rfl) (Nat.le_of_ble_eq_true rfl) (fun w hp => ?_)
  obtain rfl := hp
  refine z_iinc hC (pc := 26) (v := 3) (lv' := [(3, .int 3), (0, .ref h0), (1, .int 8), (2, .int x2)]) 0 dX12_fourReady_26 rfl (by decide) (by decide) rfl ?_
  refine z_goto hC (pc := 29) 2 dX12_fourReady_29 (by decide) ?_
  refine z_iload_n hC (pc := 2) 0 dX12_fourReady_2 rfl rfl ?_
  refine z_iconst hC (pc := 3) (v := 4) dX12_fourReady_3 (by decide) ?_
  refine z_icmp_geF hC (pc := 4) 32 dX12_fourReady_4 (by decide) (by decide) ?_
  refine z_aload_n hC (pc := 7) 1 dX12_fourReady_7 rfl rfl ?_
  refine z_get hC (pc := 8) zf12 0 0 dX12_fourReady_8 zw708 rfl rfl (kk := ?_)
  refine z_iload_n hC (pc := 11) 2 dX12_fourReady_11 rfl rfl ?_
  refine z_iload_n hC (pc := 12) 0 dX12_fourReady_12 rfl rfl ?_
  refine z_iadd hC (pc := 13) (v := 11) dX12_fourReady_13 (by decide) ?_
  refine z_iload_n hC (pc := 14) 3 dX12_fourReady_14 rfl rfl ?_
  refine z_bipush hC (pc := 15) (v := 24) dX12_fourReady_15 (by decide) ?_
  refine z_bipush hC (pc := 17) (v := 8) dX12_fourReady_17 (by decide) ?_
  refine z_iload_n hC (pc := 19) 0 dX12_fourReady_19 rfl rfl ?_
  refine z_imul hC (pc := 20) (v := 24) dX12_fourReady_20 (by decide) ?_
  refine z_isub hC (pc := 21) (v := 0) dX12_fourReady_21 (by decide) ?_
  refine z_iushr hC (pc := 22) (v := ((x2 : Int32).toUInt32 >>> ((0 : Int32).toUInt32 &&& Int32.toUInt32 31)).toInt32) dX12_fourReady_22 rfl ?_
  refine z_callSv hC (pc := 23) (k := 0) (n := 0) (As := [.ref h1, .int 11, .int (((x2 : Int32).toUInt32 >>> ((0 : Int32).toUInt32 &&& Int32.toUInt32 31)).toInt32)]) (wr := [(h0, .inr (12, [.ref h1, .ref g3, .int 0, .ref g4, .ref g5, .ref g6, .ref g7, .ref g8, .ref g9, .ref g10, .ref g11, .ref g12, .int 0, .int 0, .int (-1), .int (-1), .int 0, .int 0, .int 0]))]) (kX12_setByte_29 l G h1 ((x2 : Int32).toUInt32 >>> ((0 : Int32).toUInt32 &&& Int32.toUInt32 31)).toInt32 x13 x14 x15 x16 x17 x18 x19 x20 (vp_nar .byte (((x2 : Int32).toUInt32 >>> ((24 : Int32).toUInt32 &&& Int32.toUInt32 31)).toInt32).toInt8.toInt32) (vp_nar .byte (((x2 : Int32).toUInt32 >>> ((16 : Int32).toUInt32 &&& Int32.toUInt32 31)).toInt32).toInt8.toInt32) (vp_nar .byte (((x2 : Int32).toUInt32 >>> ((8 : Int32).toUInt32 &&& Int32.toUInt32 31)).toInt32).toInt8.toInt32)) dmX12_setByte [1] [0] rfl rfl rfl dX12_fourReady_23 zw774 rfl rfl (Nat.le_of_ble_eq_true rfl) (Nat.le_of_ble_eq_true rfl) (Nat.le_of_ble_eq_true rfl) (Nat.le_of_ble_eq_true rfl) (Nat.le_of_ble_eq_true rfl) (fun w hp => ?_)
  obtain rfl := hp
  refine z_iinc hC (pc := 26) (v := 4) (lv' := [(3, .int 4), (0, .ref h0), (1, .int 8), (2, .int x2)]) 0 dX12_fourReady_26 rfl (by decide) (by decide) rfl ?_
  refine z_goto hC (pc := 29) 2 dX12_fourReady_29 (by decide) ?_
  refine z_iload_n hC (pc := 2) 0 dX12_fourReady_2 rfl rfl ?_
  refine z_iconst hC (pc := 3) (v := 4) dX12_fourReady_3 (by decide) ?_
  refine z_icmp_geT hC (pc := 4) 32 dX12_fourReady_4 (by decide) (by decide) ?_
  exact hR _ _ _ _ _ dX12_fourReady_32 (Nat.le_of_ble_eq_true rfl) (Nat.le_of_ble_eq_true rfl) rfl
set_option maxRecDepth 100000 in
theorem kX12_setByte_31 (l : Launch) (G : zG) (h0 : Nat) (x1 : Int32) (x2 : Int32) (x3 : Int32) (x4 : Int32) (x5 : Int32) (x6 : Int32) (x7 : Int32) (x8 : Int32) (x9 : Int32) (x10 : Int32) (x11 : Int32) (x12 : Int32) (x13 : Int32) : zMv l G yX12_setByte cX12_setByte 3 0 0 0 0 [.ref h0, .int 12, .int x1] [(h0, .inl (G.2.1 1, 20, .inl (upd (upd (upd (upd (upd (upd (upd (upd (upd (upd (upd (upd (fun _ => 0) 0 x2) 1 x3) 2 x4) 3 x5) 4 x6) 5 x7) 6 x8) 7 x9) 8 x10) 9 x11) 10 x12) 11 x13)))] (fun w => w = [(h0, .inl (G.2.1 1, 20, .inl (upd (upd (upd (upd (upd (upd (upd (upd (upd (upd (upd (upd (upd (fun _ => 0) 0 x2) 1 x3) 2 x4) 3 x5) 4 x6) 5 x7) 6 x8) 7 x9) 8 x10) 9 x11) 10 x12) 11 x13) 12 (vp_nar .byte (x1).toInt8.toInt32))))]) := by
  refine zMv.intro (by decide) (Nat.le_of_ble_eq_true rfl) (fun X hC hR => ?_)
  refine z_iload_n hC (pc := 0) 1 dX12_setByte_0 rfl rfl ?_
  refine z_if_ltF hC (pc := 1) 15 dX12_setByte_1 (by decide) (by decide) ?_
  refine z_iload_n hC (pc := 4) 1 dX12_setByte_4 rfl rfl ?_
  refine z_aload_n hC (pc := 5) 0 dX12_setByte_5 rfl rfl ?_
  refine z_alen1 hC (pc := 6) (v := 20) 0 dX12_setByte_6 rfl rfl ?_
  refine z_icmp_geF hC (pc := 7) 15 dX12_setByte_7 (by decide) (by decide) ?_
  refine z_aload_n hC (pc := 10) 0 dX12_setByte_10 rfl rfl ?_
  refine z_iload_n hC (pc := 11) 1 dX12_setByte_11 rfl rfl ?_
  refine z_iload_n hC (pc := 12) 2 dX12_setByte_12 rfl rfl ?_
  refine z_i2b hC (pc := 13) (v := (x1).toInt8.toInt32) dX12_setByte_13 rfl ?_
  refine z_bast hC (pc := 14) (f' := (upd (upd (upd (upd (upd (upd (upd (upd (upd (upd (upd (upd (upd (fun _ => 0) 0 x2) 1 x3) 2 x4) 3 x5) 4 x6) 5 x7) 6 x8) 7 x9) 8 x10) 9 x11) 10 x12) 11 x13) 12 (vp_nar .byte (x1).toInt8.toInt32))) 0 [(h0, .inl (G.2.1 1, 20, .inl (upd (upd (upd (upd (upd (upd (upd (upd (upd (upd (upd (upd (upd (fun _ => 0) 0 x2) 1 x3) 2 x4) 3 x5) 4 x6) 5 x7) 6 x8) 7 x9) 8 x10) 9 x11) 10 x12) 11 x13) 12 (vp_nar .byte (x1).toInt8.toInt32))))] dX12_setByte_14 rfl (zvi rfl) rfl rfl ?_
  exact hR _ _ _ _ _ dX12_setByte_15 (Nat.le_of_ble_eq_true rfl) (Nat.le_of_ble_eq_true rfl) rfl
set_option maxRecDepth 100000 in
theorem kX12_setByte_32 (l : Launch) (G : zG) (h0 : Nat) (x1 : Int32) (x2 : Int32) (x3 : Int32) (x4 : Int32) (x5 : Int32) (x6 : Int32) (x7 : Int32) (x8 : Int32) (x9 : Int32) (x10 : Int32) (x11 : Int32) (x12 : Int32) (x13 : Int32) (x14 : Int32) : zMv l G yX12_setByte cX12_setByte 3 0 0 0 0 [.ref h0, .int 13, .int x1] [(h0, .inl (G.2.1 1, 20, .inl (upd (upd (upd (upd (upd (upd (upd (upd (upd (upd (upd (upd (upd (fun _ => 0) 0 x2) 1 x3) 2 x4) 3 x5) 4 x6) 5 x7) 6 x8) 7 x9) 8 x10) 9 x11) 10 x12) 11 x13) 12 x14)))] (fun w => w = [(h0, .inl (G.2.1 1, 20, .inl (upd (upd (upd (upd (upd (upd (upd (upd (upd (upd (upd (upd (upd (upd (fun _ => 0) 0 x2) 1 x3) 2 x4) 3 x5) 4 x6) 5 x7) 6 x8) 7 x9) 8 x10) 9 x11) 10 x12) 11 x13) 12 x14) 13 (vp_nar .byte (x1).toInt8.toInt32))))]) := by
  refine zMv.intro (by decide) (Nat.le_of_ble_eq_true rfl) (fun X hC hR => ?_)
  refine z_iload_n hC (pc := 0) 1 dX12_setByte_0 rfl rfl ?_
  refine z_if_ltF hC (pc := 1) 15 dX12_setByte_1 (by decide) (by decide) ?_
  refine z_iload_n hC (pc := 4) 1 dX12_setByte_4 rfl rfl ?_
  refine z_aload_n hC (pc := 5) 0 dX12_setByte_5 rfl rfl ?_
  refine z_alen1 hC (pc := 6) (v := 20) 0 dX12_setByte_6 rfl rfl ?_
  refine z_icmp_geF hC (pc := 7) 15 dX12_setByte_7 (by decide) (by decide) ?_
  refine z_aload_n hC (pc := 10) 0 dX12_setByte_10 rfl rfl ?_
  refine z_iload_n hC (pc := 11) 1 dX12_setByte_11 rfl rfl ?_
  refine z_iload_n hC (pc := 12) 2 dX12_setByte_12 rfl rfl ?_
  refine z_i2b hC (pc := 13) (v := (x1).toInt8.toInt32) dX12_setByte_13 rfl ?_
  refine z_bast hC (pc := 14) (f' := (upd (upd (upd (upd (upd (upd (upd (upd (upd (upd (upd (upd (upd (upd (fun _ => 0) 0 x2) 1 x3) 2 x4) 3 x5) 4 x6) 5 x7) 6 x8) 7 x9) 8 x10) 9 x11) 10 x12) 11 x13) 12 x14) 13 (vp_nar .byte (x1).toInt8.toInt32))) 0 [(h0, .inl (G.2.1 1, 20, .inl (upd (upd (upd (upd (upd (upd (upd (upd (upd (upd (upd (upd (upd (upd (fun _ => 0) 0 x2) 1 x3) 2 x4) 3 x5) 4 x6) 5 x7) 6 x8) 7 x9) 8 x10) 9 x11) 10 x12) 11 x13) 12 x14) 13 (vp_nar .byte (x1).toInt8.toInt32))))] dX12_setByte_14 rfl (zvi rfl) rfl rfl ?_
  exact hR _ _ _ _ _ dX12_setByte_15 (Nat.le_of_ble_eq_true rfl) (Nat.le_of_ble_eq_true rfl) rfl
set_option maxRecDepth 100000 in
theorem kX12_setByte_33 (l : Launch) (G : zG) (h0 : Nat) (x1 : Int32) (x2 : Int32) (x3 : Int32) (x4 : Int32) (x5 : Int32) (x6 : Int32) (x7 : Int32) (x8 : Int32) (x9 : Int32) (x10 : Int32) (x11 : Int32) (x12 : Int32) (x13 : Int32) (x14 : Int32) (x15 : Int32) : zMv l G yX12_setByte cX12_setByte 3 0 0 0 0 [.ref h0, .int 14, .int x1] [(h0, .inl (G.2.1 1, 20, .inl (upd (upd (upd (upd (upd (upd (upd (upd (upd (upd (upd (upd (upd (upd (fun _ => 0) 0 x2) 1 x3) 2 x4) 3 x5) 4 x6) 5 x7) 6 x8) 7 x9) 8 x10) 9 x11) 10 x12) 11 x13) 12 x14) 13 x15)))] (fun w => w = [(h0, .inl (G.2.1 1, 20, .inl (upd (upd (upd (upd (upd (upd (upd (upd (upd (upd (upd (upd (upd (upd (upd (fun _ => 0) 0 x2) 1 x3) 2 x4) 3 x5) 4 x6) 5 x7) 6 x8) 7 x9) 8 x10) 9 x11) 10 x12) 11 x13) 12 x14) 13 x15) 14 (vp_nar .byte (x1).toInt8.toInt32))))]) := by
  refine zMv.intro (by decide) (Nat.le_of_ble_eq_true rfl) (fun X hC hR => ?_)
  refine z_iload_n hC (pc := 0) 1 dX12_setByte_0 rfl rfl ?_
  refine z_if_ltF hC (pc := 1) 15 dX12_setByte_1 (by decide) (by decide) ?_
  refine z_iload_n hC (pc := 4) 1 dX12_setByte_4 rfl rfl ?_
  refine z_aload_n hC (pc := 5) 0 dX12_setByte_5 rfl rfl ?_
  refine z_alen1 hC (pc := 6) (v := 20) 0 dX12_setByte_6 rfl rfl ?_
  refine z_icmp_geF hC (pc := 7) 15 dX12_setByte_7 (by decide) (by decide) ?_
  refine z_aload_n hC (pc := 10) 0 dX12_setByte_10 rfl rfl ?_
  refine z_iload_n hC (pc := 11) 1 dX12_setByte_11 rfl rfl ?_
  refine z_iload_n hC (pc := 12) 2 dX12_setByte_12 rfl rfl ?_
  refine z_i2b hC (pc := 13) (v := (x1).toInt8.toInt32) dX12_setByte_13 rfl ?_
  refine z_bast hC (pc := 14) (f' := (upd (upd (upd (upd (upd (upd (upd (upd (upd (upd (upd (upd (upd (upd (upd (fun _ => 0) 0 x2) 1 x3) 2 x4) 3 x5) 4 x6) 5 x7) 6 x8) 7 x9) 8 x10) 9 x11) 10 x12) 11 x13) 12 x14) 13 x15) 14 (vp_nar .byte (x1).toInt8.toInt32))) 0 [(h0, .inl (G.2.1 1, 20, .inl (upd (upd (upd (upd (upd (upd (upd (upd (upd (upd (upd (upd (upd (upd (upd (fun _ => 0) 0 x2) 1 x3) 2 x4) 3 x5) 4 x6) 5 x7) 6 x8) 7 x9) 8 x10) 9 x11) 10 x12) 11 x13) 12 x14) 13 x15) 14 (vp_nar .byte (x1).toInt8.toInt32))))] dX12_setByte_14 rfl (zvi rfl) rfl rfl ?_
  exact hR _ _ _ _ _ dX12_setByte_15 (Nat.le_of_ble_eq_true rfl) (Nat.le_of_ble_eq_true rfl) rfl
set_option maxRecDepth 100000 in
theorem kX12_setByte_34 (l : Launch) (G : zG) (h0 : Nat) (x1 : Int32) (x2 : Int32) (x3 : Int32) (x4 : Int32) (x5 : Int32) (x6 : Int32) (x7 : Int32) (x8 : Int32) (x9 : Int32) (x10 : Int32) (x11 : Int32) (x12 : Int32) (x13 : Int32) (x14 : Int32) (x15 : Int32) (x16 : Int32) : zMv l G yX12_setByte cX12_setByte 3 0 0 0 0 [.ref h0, .int 15, .int x1] [(h0, .inl (G.2.1 1, 20, .inl (upd (upd (upd (upd (upd (upd (upd (upd (upd (upd (upd (upd (upd (upd (upd (fun _ => 0) 0 x2) 1 x3) 2 x4) 3 x5) 4 x6) 5 x7) 6 x8) 7 x9) 8 x10) 9 x11) 10 x12) 11 x13) 12 x14) 13 x15) 14 x16)))] (fun w => w = [(h0, .inl (G.2.1 1, 20, .inl (upd (upd (upd (upd (upd (upd (upd (upd (upd (upd (upd (upd (upd (upd (upd (upd (fun _ => 0) 0 x2) 1 x3) 2 x4) 3 x5) 4 x6) 5 x7) 6 x8) 7 x9) 8 x10) 9 x11) 10 x12) 11 x13) 12 x14) 13 x15) 14 x16) 15 (vp_nar .byte (x1).toInt8.toInt32))))]) := by
  refine zMv.intro (by decide) (Nat.le_of_ble_eq_true rfl) (fun X hC hR => ?_)
  refine z_iload_n hC (pc := 0) 1 dX12_setByte_0 rfl rfl ?_
  refine z_if_ltF hC (pc := 1) 15 dX12_setByte_1 (by decide) (by decide) ?_
  refine z_iload_n hC (pc := 4) 1 dX12_setByte_4 rfl rfl ?_
  refine z_aload_n hC (pc := 5) 0 dX12_setByte_5 rfl rfl ?_
  refine z_alen1 hC (pc := 6) (v := 20) 0 dX12_setByte_6 rfl rfl ?_
  refine z_icmp_geF hC (pc := 7) 15 dX12_setByte_7 (by decide) (by decide) ?_
  refine z_aload_n hC (pc := 10) 0 dX12_setByte_10 rfl rfl ?_
  refine z_iload_n hC (pc := 11) 1 dX12_setByte_11 rfl rfl ?_
  refine z_iload_n hC (pc := 12) 2 dX12_setByte_12 rfl rfl ?_
  refine z_i2b hC (pc := 13) (v := (x1).toInt8.toInt32) dX12_setByte_13 rfl ?_
  refine z_bast hC (pc := 14) (f' := (upd (upd (upd (upd (upd (upd (upd (upd (upd (upd (upd (upd (upd (upd (upd (upd (fun _ => 0) 0 x2) 1 x3) 2 x4) 3 x5) 4 x6) 5 x7) 6 x8) 7 x9) 8 x10) 9 x11) 10 x12) 11 x13) 12 x14) 13 x15) 14 x16) 15 (vp_nar .byte (x1).toInt8.toInt32))) 0 [(h0, .inl (G.2.1 1, 20, .inl (upd (upd (upd (upd (upd (upd (upd (upd (upd (upd (upd (upd (upd (upd (upd (upd (fun _ => 0) 0 x2) 1 x3) 2 x4) 3 x5) 4 x6) 5 x7) 6 x8) 7 x9) 8 x10) 9 x11) 10 x12) 11 x13) 12 x14) 13 x15) 14 x16) 15 (vp_nar .byte (x1).toInt8.toInt32))))] dX12_setByte_14 rfl (zvi rfl) rfl rfl ?_
  exact hR _ _ _ _ _ dX12_setByte_15 (Nat.le_of_ble_eq_true rfl) (Nat.le_of_ble_eq_true rfl) rfl
set_option maxRecDepth 100000 in
theorem kX12_fourReady_35 (l : Launch) (G : zG) (h0 : Nat) (h1 : Nat) (x2 : Int32) (g3 : Nat) (g4 : Nat) (g5 : Nat) (g6 : Nat) (g7 : Nat) (g8 : Nat) (g9 : Nat) (g10 : Nat) (g11 : Nat) (g12 : Nat) (x13 : Int32) (x14 : Int32) (x15 : Int32) (x16 : Int32) (x17 : Int32) (x18 : Int32) (x19 : Int32) (x20 : Int32) (x21 : Int32) (x22 : Int32) (x23 : Int32) (x24 : Int32) : zMv l G yX12_fourReady cX12_fourReady 4 1 22 0 0 [.ref h0, .int 12, .int x2] [(h0, .inr (12, [.ref h1, .ref g3, .int 0, .ref g4, .ref g5, .ref g6, .ref g7, .ref g8, .ref g9, .ref g10, .ref g11, .ref g12, .int 0, .int 0, .int (-1), .int (-1), .int 0, .int 0, .int 0])), (h1, .inl (G.2.1 1, 20, .inl (upd (upd (upd (upd (upd (upd (upd (upd (upd (upd (upd (upd (fun _ => 0) 0 x13) 1 x14) 2 x15) 3 x16) 4 x17) 5 x18) 6 x19) 7 x20) 8 x21) 9 x22) 10 x23) 11 x24)))] (fun w => w = [(h0, .inr (12, [.ref h1, .ref g3, .int 0, .ref g4, .ref g5, .ref g6, .ref g7, .ref g8, .ref g9, .ref g10, .ref g11, .ref g12, .int 0, .int 0, .int (-1), .int (-1), .int 0, .int 0, .int 0])), (h1, .inl (G.2.1 1, 20, .inl (upd (upd (upd (upd (upd (upd (upd (upd (upd (upd (upd (upd (upd (upd (upd (upd (fun _ => 0) 0 x13) 1 x14) 2 x15) 3 x16) 4 x17) 5 x18) 6 x19) 7 x20) 8 x21) 9 x22) 10 x23) 11 x24) 12 (vp_nar .byte (((x2 : Int32).toUInt32 >>> ((24 : Int32).toUInt32 &&& Int32.toUInt32 31)).toInt32).toInt8.toInt32)) 13 (vp_nar .byte (((x2 : Int32).toUInt32 >>> ((16 : Int32).toUInt32 &&& Int32.toUInt32 31)).toInt32).toInt8.toInt32)) 14 (vp_nar .byte (((x2 : Int32).toUInt32 >>> ((8 : Int32).toUInt32 &&& Int32.toUInt32 31)).toInt32).toInt8.toInt32)) 15 (vp_nar .byte (((x2 : Int32).toUInt32 >>> ((0 : Int32).toUInt32 &&& Int32.toUInt32 31)).toInt32).toInt8.toInt32))))]) := by
  refine zMv.intro (by decide) (Nat.le_of_ble_eq_true rfl) (fun X hC hR => ?_)
  refine z_iconst hC (pc := 0) (v := 0) dX12_fourReady_0 (by decide) ?_
  refine z_istore_n hC (pc := 1) (lv' := [(3, .int 0), (0, .ref h0), (1, .int 12), (2, .int x2)]) dX12_fourReady_1 rfl (by decide) rfl ?_
  refine z_iload_n hC (pc := 2) 0 dX12_fourReady_2 rfl rfl ?_
  refine z_iconst hC (pc := 3) (v := 4) dX12_fourReady_3 (by decide) ?_
  refine z_icmp_geF hC (pc := 4) 32 dX12_fourReady_4 (by decide) (by decide) ?_
  refine z_aload_n hC (pc := 7) 1 dX12_fourReady_7 rfl rfl ?_
  refine z_get hC (pc := 8) zf12 0 0 dX12_fourReady_8 zw708 rfl rfl (kk := ?_)
  refine z_iload_n hC (pc := 11) 2 dX12_fourReady_11 rfl rfl ?_
  refine z_iload_n hC (pc := 12) 0 dX12_fourReady_12 rfl rfl ?_
  refine z_iadd hC (pc := 13) (v := 12) dX12_fourReady_13 (by decide) ?_
  refine z_iload_n hC (pc := 14) 3 dX12_fourReady_14 rfl rfl ?_
  refine z_bipush hC (pc := 15) (v := 24) dX12_fourReady_15 (by decide) ?_
  refine z_bipush hC (pc := 17) (v := 8) dX12_fourReady_17 (by decide) ?_
  refine z_iload_n hC (pc := 19) 0 dX12_fourReady_19 rfl rfl ?_
  refine z_imul hC (pc := 20) (v := 0) dX12_fourReady_20 (by decide) ?_
  refine z_isub hC (pc := 21) (v := 24) dX12_fourReady_21 (by decide) ?_
  refine z_iushr hC (pc := 22) (v := ((x2 : Int32).toUInt32 >>> ((24 : Int32).toUInt32 &&& Int32.toUInt32 31)).toInt32) dX12_fourReady_22 rfl ?_
  refine z_callSv hC (pc := 23) (k := 0) (n := 0) (As := [.ref h1, .int 12, .int (((x2 : Int32).toUInt32 >>> ((24 : Int32).toUInt32 &&& Int32.toUInt32 31)).toInt32)]) (wr := [(h0, .inr (12, [.ref h1, .ref g3, .int 0, .ref g4, .ref g5, .ref g6, .ref g7, .ref g8, .ref g9, .ref g10, .ref g11, .ref g12, .int 0, .int 0, .int (-1), .int (-1), .int 0, .int 0, .int 0]))]) (kX12_setByte_31 l G h1 ((x2 : Int32).toUInt32 >>> ((24 : Int32).toUInt32 &&& Int32.toUInt32 31)).toInt32 x13 x14 x15 x16 x17 x18 x19 x20 x21 x22 x23 x24) dmX12_setByte [1] [0] rfl rfl rfl dX12_fourReady_23 zw774 rfl rfl (Nat.le_of_ble_eq_true rfl) (Nat.le_of_ble_eq_true rfl) (Nat.le_of_ble_eq_true rfl) (Nat.le_of_ble_eq_true rfl) (Nat.le_of_ble_eq_true rfl) (fun w hp => ?_)
  obtain rfl := hp
  refine z_iinc hC (pc := 26) (v := 1) (lv' := [(3, .int 1), (0, .ref h0), (1, .int 12), (2, .int x2)]) 0 dX12_fourReady_26 rfl (by decide) (by decide) rfl ?_
  refine z_goto hC (pc := 29) 2 dX12_fourReady_29 (by decide) ?_
  refine z_iload_n hC (pc := 2) 0 dX12_fourReady_2 rfl rfl ?_
  refine z_iconst hC (pc := 3) (v := 4) dX12_fourReady_3 (by decide) ?_
  refine z_icmp_geF hC (pc := 4) 32 dX12_fourReady_4 (by decide) (by decide) ?_
  refine z_aload_n hC (pc := 7) 1 dX12_fourReady_7 rfl rfl ?_
  refine z_get hC (pc := 8) zf12 0 0 dX12_fourReady_8 zw708 rfl rfl (kk := ?_)
  refine z_iload_n hC (pc := 11) 2 dX12_fourReady_11 rfl rfl ?_
  refine z_iload_n hC (pc := 12) 0 dX12_fourReady_12 rfl rfl ?_
  refine z_iadd hC (pc := 13) (v := 13) dX12_fourReady_13 (by decide) ?_
  refine z_iload_n hC (pc := 14) 3 dX12_fourReady_14 rfl rfl ?_
  refine z_bipush hC (pc := 15) (v := 24) dX12_fourReady_15 (by decide) ?_
  refine z_bipush hC (pc := 17) (v := 8) dX12_fourReady_17 (by decide) ?_
  refine z_iload_n hC (pc := 19) 0 dX12_fourReady_19 rfl rfl ?_
  refine z_imul hC (pc := 20) (v := 8) dX12_fourReady_20 (by decide) ?_
  refine z_isub hC (pc := 21) (v := 16) dX12_fourReady_21 (by decide) ?_
  refine z_iushr hC (pc := 22) (v := ((x2 : Int32).toUInt32 >>> ((16 : Int32).toUInt32 &&& Int32.toUInt32 31)).toInt32) dX12_fourReady_22 rfl ?_
  refine z_callSv hC (pc := 23) (k := 0) (n := 0) (As := [.ref h1, .int 13, .int (((x2 : Int32).toUInt32 >>> ((16 : Int32).toUInt32 &&& Int32.toUInt32 31)).toInt32)]) (wr := [(h0, .inr (12, [.ref h1, .ref g3, .int 0, .ref g4, .ref g5, .ref g6, .ref g7, .ref g8, .ref g9, .ref g10, .ref g11, .ref g12, .int 0, .int 0, .int (-1), .int (-1), .int 0, .int 0, .int 0]))]) (kX12_setByte_32 l G h1 ((x2 : Int32).toUInt32 >>> ((16 : Int32).toUInt32 &&& Int32.toUInt32 31)).toInt32 x13 x14 x15 x16 x17 x18 x19 x20 x21 x22 x23 x24 (vp_nar .byte (((x2 : Int32).toUInt32 >>> ((24 : Int32).toUInt32 &&& Int32.toUInt32 31)).toInt32).toInt8.toInt32)) dmX12_setByte [1] [0] rfl rfl rfl dX12_fourReady_23 zw774 rfl rfl (Nat.le_of_ble_eq_true rfl) (Nat.le_of_ble_eq_true rfl) (Nat.le_of_ble_eq_true rfl) (Nat.le_of_ble_eq_true rfl) (Nat.le_of_ble_eq_true rfl) (fun w hp => ?_)
  obtain rfl := hp
  refine z_iinc hC (pc := 26) (v := 2) (lv' := [(3, .int 2), (0, .ref h0), (1, .int 12), (2, .int x2)]) 0 dX12_fourReady_26 rfl (by decide) (by decide) rfl ?_
  refine z_goto hC (pc := 29) 2 dX12_fourReady_29 (by decide) ?_
  refine z_iload_n hC (pc := 2) 0 dX12_fourReady_2 rfl rfl ?_
  refine z_iconst hC (pc := 3) (v := 4) dX12_fourReady_3 (by decide) ?_
  refine z_icmp_geF hC (pc := 4) 32 dX12_fourReady_4 (by decide) (by decide) ?_
  refine z_aload_n hC (pc := 7) 1 dX12_fourReady_7 rfl rfl ?_
  refine z_get hC (pc := 8) zf12 0 0 dX12_fourReady_8 zw708 rfl rfl (kk := ?_)
  refine z_iload_n hC (pc := 11) 2 dX12_fourReady_11 rfl rfl ?_
  refine z_iload_n hC (pc := 12) 0 dX12_fourReady_12 rfl rfl ?_
  refine z_iadd hC (pc := 13) (v := 14) dX12_fourReady_13 (by decide) ?_
  refine z_iload_n hC (pc := 14) 3 dX12_fourReady_14 rfl rfl ?_
  refine z_bipush hC (pc := 15) (v := 24) dX12_fourReady_15 (by decide) ?_
  refine z_bipush hC (pc := 17) (v := 8) dX12_fourReady_17 (by decide) ?_
  refine z_iload_n hC (pc := 19) 0 dX12_fourReady_19 rfl rfl ?_
  refine z_imul hC (pc := 20) (v := 16) dX12_fourReady_20 (by decide) ?_
  refine z_isub hC (pc := 21) (v := 8) dX12_fourReady_21 (by decide) ?_
  refine z_iushr hC (pc := 22) (v := ((x2 : Int32).toUInt32 >>> ((8 : Int32).toUInt32 &&& Int32.toUInt32 31)).toInt32) dX12_fourReady_22 rfl ?_
  refine z_callSv hC (pc := 23) (k := 0) (n := 0) (As := [.ref h1, .int 14, .int (((x2 : Int32).toUInt32 >>> ((8 : Int32).toUInt32 &&& Int32.toUInt32 31)).toInt32)]) (wr := [(h0, .inr (12, [.ref h1, .ref g3, .int 0, .ref g4, .ref g5, .ref g6, .ref g7, .ref g8, .ref g9, .ref g10, .ref g11, .ref g12, .int 0, .int 0, .int (-1), .int (-1), .int 0, .int 0, .int 0]))]) (kX12_setByte_33 l G h1 ((x2 : Int32).toUInt32 >>> ((8 : Int32).toUInt32 &&& Int32.toUInt32 31)).toInt32 x13 x14 x15 x16 x17 x18 x19 x20 x21 x22 x23 x24 (vp_nar .byte (((x2 : Int32).toUInt32 >>> ((24 : Int32).toUInt32 &&& Int32.toUInt32 31)).toInt32).toInt8.toInt32) (vp_nar .byte (((x2 : Int32).toUInt32 >>> ((16 : Int32).toUInt32 &&& Int32.toUInt32 31)).toInt32).toInt8.toInt32)) dmX12_setByte [1] [0] rfl rfl rfl dX12_fourReady_23 zw774 rfl rfl (Nat.le_of_ble_eq_true rfl) (Nat.le_of_ble_eq_true rfl) (Nat.le_of_ble_eq_true rfl) (Nat.le_of_ble_eq_true rfl) (Nat.le_of_ble_eq_true rfl) (fun w hp => ?_)
  obtain rfl := hp
  refine z_iinc hC (pc := 26) (v := 3) (lv' := [(3, .int 3), (0, .ref h0), (1, .int 12), (2, .int x2)]) 0 dX12_fourReady_26 rfl (by decide) (by decide) rfl ?_
  refine z_goto hC (pc := 29) 2 dX12_fourReady_29 (by decide) ?_
  refine z_iload_n hC (pc := 2) 0 dX12_fourReady_2 rfl rfl ?_
  refine z_iconst hC (pc := 3) (v := 4) dX12_fourReady_3 (by decide) ?_
  refine z_icmp_geF hC (pc := 4) 32 dX12_fourReady_4 (by decide) (by decide) ?_
  refine z_aload_n hC (pc := 7) 1 dX12_fourReady_7 rfl rfl ?_
  refine z_get hC (pc := 8) zf12 0 0 dX12_fourReady_8 zw708 rfl rfl (kk := ?_)
  refine z_iload_n hC (pc := 11) 2 dX12_fourReady_11 rfl rfl ?_
  refine z_iload_n hC (pc := 12) 0 dX12_fourReady_12 rfl rfl ?_
  refine z_iadd hC (pc := 13) (v := 15) dX12_fourReady_13 (by decide) ?_
  refine z_iload_n hC (pc := 14) 3 dX12_fourReady_14 rfl rfl ?_
  refine z_bipush hC (pc := 15) (v := 24) dX12_fourReady_15 (by decide) ?_
  refine z_bipush hC (pc := 17) (v := 8) dX12_fourReady_17 (by decide) ?_
  refine z_iload_n hC (pc := 19) 0 dX12_fourReady_19 rfl rfl ?_
  refine z_imul hC (pc := 20) (v := 24) dX12_fourReady_20 (by decide) ?_
  refine z_isub hC (pc := 21) (v := 0) dX12_fourReady_21 (by decide) ?_
  refine z_iushr hC (pc := 22) (v := ((x2 : Int32).toUInt32 >>> ((0 : Int32).toUInt32 &&& Int32.toUInt32 31)).toInt32) dX12_fourReady_22 rfl ?_
  refine z_callSv hC (pc := 23) (k := 0) (n := 0) (As := [.ref h1, .int 15, .int (((x2 : Int32).toUInt32 >>> ((0 : Int32).toUInt32 &&& Int32.toUInt32 31)).toInt32)]) (wr := [(h0, .inr (12, [.ref h1, .ref g3, .int 0, .ref g4, .ref g5, .ref g6, .ref g7, .ref g8, .ref g9, .ref g10, .ref g11, .ref g12, .int 0, .int 0, .int (-1), .int (-1), .int 0, .int 0, .int 0]))]) (kX12_setByte_34 l G h1 ((x2 : Int32).toUInt32 >>> ((0 : Int32).toUInt32 &&& Int32.toUInt32 31)).toInt32 x13 x14 x15 x16 x17 x18 x19 x20 x21 x22 x23 x24 (vp_nar .byte (((x2 : Int32).toUInt32 >>> ((24 : Int32).toUInt32 &&& Int32.toUInt32 31)).toInt32).toInt8.toInt32) (vp_nar .byte (((x2 : Int32).toUInt32 >>> ((16 : Int32).toUInt32 &&& Int32.toUInt32 31)).toInt32).toInt8.toInt32) (vp_nar .byte (((x2 : Int32).toUInt32 >>> ((8 : Int32).toUInt32 &&& Int32.toUInt32 31)).toInt32).toInt8.toInt32)) dmX12_setByte [1] [0] rfl rfl rfl dX12_fourReady_23 zw774 rfl rfl (Nat.le_of_ble_eq_true rfl) (Nat.le_of_ble_eq_true rfl) (Nat.le_of_ble_eq_true rfl) (Nat.le_of_ble_eq_true rfl) (Nat.le_of_ble_eq_true rfl) (fun w hp => ?_)
  obtain rfl := hp
  refine z_iinc hC (pc := 26) (v := 4) (lv' := [(3, .int 4), (0, .ref h0), (1, .int 12), (2, .int x2)]) 0 dX12_fourReady_26 rfl (by decide) (by decide) rfl ?_
  refine z_goto hC (pc := 29) 2 dX12_fourReady_29 (by decide) ?_
  refine z_iload_n hC (pc := 2) 0 dX12_fourReady_2 rfl rfl ?_
  refine z_iconst hC (pc := 3) (v := 4) dX12_fourReady_3 (by decide) ?_
  refine z_icmp_geT hC (pc := 4) 32 dX12_fourReady_4 (by decide) (by decide) ?_
  exact hR _ _ _ _ _ dX12_fourReady_32 (Nat.le_of_ble_eq_true rfl) (Nat.le_of_ble_eq_true rfl) rfl
set_option maxRecDepth 100000 in
theorem kX12_setByte_36 (l : Launch) (G : zG) (h0 : Nat) (x1 : Int32) (x2 : Int32) (x3 : Int32) (x4 : Int32) (x5 : Int32) (x6 : Int32) (x7 : Int32) (x8 : Int32) (x9 : Int32) (x10 : Int32) (x11 : Int32) (x12 : Int32) (x13 : Int32) (x14 : Int32) (x15 : Int32) (x16 : Int32) (x17 : Int32) : zMv l G yX12_setByte cX12_setByte 3 0 0 0 0 [.ref h0, .int 16, .int x1] [(h0, .inl (G.2.1 1, 20, .inl (upd (upd (upd (upd (upd (upd (upd (upd (upd (upd (upd (upd (upd (upd (upd (upd (fun _ => 0) 0 x2) 1 x3) 2 x4) 3 x5) 4 x6) 5 x7) 6 x8) 7 x9) 8 x10) 9 x11) 10 x12) 11 x13) 12 x14) 13 x15) 14 x16) 15 x17)))] (fun w => w = [(h0, .inl (G.2.1 1, 20, .inl (upd (upd (upd (upd (upd (upd (upd (upd (upd (upd (upd (upd (upd (upd (upd (upd (upd (fun _ => 0) 0 x2) 1 x3) 2 x4) 3 x5) 4 x6) 5 x7) 6 x8) 7 x9) 8 x10) 9 x11) 10 x12) 11 x13) 12 x14) 13 x15) 14 x16) 15 x17) 16 (vp_nar .byte (x1).toInt8.toInt32))))]) := by
  refine zMv.intro (by decide) (Nat.le_of_ble_eq_true rfl) (fun X hC hR => ?_)
  refine z_iload_n hC (pc := 0) 1 dX12_setByte_0 rfl rfl ?_
  refine z_if_ltF hC (pc := 1) 15 dX12_setByte_1 (by decide) (by decide) ?_
  refine z_iload_n hC (pc := 4) 1 dX12_setByte_4 rfl rfl ?_
  refine z_aload_n hC (pc := 5) 0 dX12_setByte_5 rfl rfl ?_
  refine z_alen1 hC (pc := 6) (v := 20) 0 dX12_setByte_6 rfl rfl ?_
  refine z_icmp_geF hC (pc := 7) 15 dX12_setByte_7 (by decide) (by decide) ?_
  refine z_aload_n hC (pc := 10) 0 dX12_setByte_10 rfl rfl ?_
  refine z_iload_n hC (pc := 11) 1 dX12_setByte_11 rfl rfl ?_
  refine z_iload_n hC (pc := 12) 2 dX12_setByte_12 rfl rfl ?_
  refine z_i2b hC (pc := 13) (v := (x1).toInt8.toInt32) dX12_setByte_13 rfl ?_
  refine z_bast hC (pc := 14) (f' := (upd (upd (upd (upd (upd (upd (upd (upd (upd (upd (upd (upd (upd (upd (upd (upd (upd (fun _ => 0) 0 x2) 1 x3) 2 x4) 3 x5) 4 x6) 5 x7) 6 x8) 7 x9) 8 x10) 9 x11) 10 x12) 11 x13) 12 x14) 13 x15) 14 x16) 15 x17) 16 (vp_nar .byte (x1).toInt8.toInt32))) 0 [(h0, .inl (G.2.1 1, 20, .inl (upd (upd (upd (upd (upd (upd (upd (upd (upd (upd (upd (upd (upd (upd (upd (upd (upd (fun _ => 0) 0 x2) 1 x3) 2 x4) 3 x5) 4 x6) 5 x7) 6 x8) 7 x9) 8 x10) 9 x11) 10 x12) 11 x13) 12 x14) 13 x15) 14 x16) 15 x17) 16 (vp_nar .byte (x1).toInt8.toInt32))))] dX12_setByte_14 rfl (zvi rfl) rfl rfl ?_
  exact hR _ _ _ _ _ dX12_setByte_15 (Nat.le_of_ble_eq_true rfl) (Nat.le_of_ble_eq_true rfl) rfl
set_option maxRecDepth 100000 in
theorem kX12_setByte_37 (l : Launch) (G : zG) (h0 : Nat) (x1 : Int32) (x2 : Int32) (x3 : Int32) (x4 : Int32) (x5 : Int32) (x6 : Int32) (x7 : Int32) (x8 : Int32) (x9 : Int32) (x10 : Int32) (x11 : Int32) (x12 : Int32) (x13 : Int32) (x14 : Int32) (x15 : Int32) (x16 : Int32) (x17 : Int32) (x18 : Int32) : zMv l G yX12_setByte cX12_setByte 3 0 0 0 0 [.ref h0, .int 17, .int x1] [(h0, .inl (G.2.1 1, 20, .inl (upd (upd (upd (upd (upd (upd (upd (upd (upd (upd (upd (upd (upd (upd (upd (upd (upd (fun _ => 0) 0 x2) 1 x3) 2 x4) 3 x5) 4 x6) 5 x7) 6 x8) 7 x9) 8 x10) 9 x11) 10 x12) 11 x13) 12 x14) 13 x15) 14 x16) 15 x17) 16 x18)))] (fun w => w = [(h0, .inl (G.2.1 1, 20, .inl (upd (upd (upd (upd (upd (upd (upd (upd (upd (upd (upd (upd (upd (upd (upd (upd (upd (upd (fun _ => 0) 0 x2) 1 x3) 2 x4) 3 x5) 4 x6) 5 x7) 6 x8) 7 x9) 8 x10) 9 x11) 10 x12) 11 x13) 12 x14) 13 x15) 14 x16) 15 x17) 16 x18) 17 (vp_nar .byte (x1).toInt8.toInt32))))]) := by
  refine zMv.intro (by decide) (Nat.le_of_ble_eq_true rfl) (fun X hC hR => ?_)
  refine z_iload_n hC (pc := 0) 1 dX12_setByte_0 rfl rfl ?_
  refine z_if_ltF hC (pc := 1) 15 dX12_setByte_1 (by decide) (by decide) ?_
  refine z_iload_n hC (pc := 4) 1 dX12_setByte_4 rfl rfl ?_
  refine z_aload_n hC (pc := 5) 0 dX12_setByte_5 rfl rfl ?_
  refine z_alen1 hC (pc := 6) (v := 20) 0 dX12_setByte_6 rfl rfl ?_
  refine z_icmp_geF hC (pc := 7) 15 dX12_setByte_7 (by decide) (by decide) ?_
  refine z_aload_n hC (pc := 10) 0 dX12_setByte_10 rfl rfl ?_
  refine z_iload_n hC (pc := 11) 1 dX12_setByte_11 rfl rfl ?_
  refine z_iload_n hC (pc := 12) 2 dX12_setByte_12 rfl rfl ?_
  refine z_i2b hC (pc := 13) (v := (x1).toInt8.toInt32) dX12_setByte_13 rfl ?_
  refine z_bast hC (pc := 14) (f' := (upd (upd (upd (upd (upd (upd (upd (upd (upd (upd (upd (upd (upd (upd (upd (upd (upd (upd (fun _ => 0) 0 x2) 1 x3) 2 x4) 3 x5) 4 x6) 5 x7) 6 x8) 7 x9) 8 x10) 9 x11) 10 x12) 11 x13) 12 x14) 13 x15) 14 x16) 15 x17) 16 x18) 17 (vp_nar .byte (x1).toInt8.toInt32))) 0 [(h0, .inl (G.2.1 1, 20, .inl (upd (upd (upd (upd (upd (upd (upd (upd (upd (upd (upd (upd (upd (upd (upd (upd (upd (upd (fun _ => 0) 0 x2) 1 x3) 2 x4) 3 x5) 4 x6) 5 x7) 6 x8) 7 x9) 8 x10) 9 x11) 10 x12) 11 x13) 12 x14) 13 x15) 14 x16) 15 x17) 16 x18) 17 (vp_nar .byte (x1).toInt8.toInt32))))] dX12_setByte_14 rfl (zvi rfl) rfl rfl ?_
  exact hR _ _ _ _ _ dX12_setByte_15 (Nat.le_of_ble_eq_true rfl) (Nat.le_of_ble_eq_true rfl) rfl
set_option maxRecDepth 100000 in
theorem kX12_setByte_38 (l : Launch) (G : zG) (h0 : Nat) (x1 : Int32) (x2 : Int32) (x3 : Int32) (x4 : Int32) (x5 : Int32) (x6 : Int32) (x7 : Int32) (x8 : Int32) (x9 : Int32) (x10 : Int32) (x11 : Int32) (x12 : Int32) (x13 : Int32) (x14 : Int32) (x15 : Int32) (x16 : Int32) (x17 : Int32) (x18 : Int32) (x19 : Int32) : zMv l G yX12_setByte cX12_setByte 3 0 0 0 0 [.ref h0, .int 18, .int x1] [(h0, .inl (G.2.1 1, 20, .inl (upd (upd (upd (upd (upd (upd (upd (upd (upd (upd (upd (upd (upd (upd (upd (upd (upd (upd (fun _ => 0) 0 x2) 1 x3) 2 x4) 3 x5) 4 x6) 5 x7) 6 x8) 7 x9) 8 x10) 9 x11) 10 x12) 11 x13) 12 x14) 13 x15) 14 x16) 15 x17) 16 x18) 17 x19)))] (fun w => w = [(h0, .inl (G.2.1 1, 20, .inl (upd (upd (upd (upd (upd (upd (upd (upd (upd (upd (upd (upd (upd (upd (upd (upd (upd (upd (upd (fun _ => 0) 0 x2) 1 x3) 2 x4) 3 x5) 4 x6) 5 x7) 6 x8) 7 x9) 8 x10) 9 x11) 10 x12) 11 x13) 12 x14) 13 x15) 14 x16) 15 x17) 16 x18) 17 x19) 18 (vp_nar .byte (x1).toInt8.toInt32))))]) := by
  refine zMv.intro (by decide) (Nat.le_of_ble_eq_true rfl) (fun X hC hR => ?_)
  refine z_iload_n hC (pc := 0) 1 dX12_setByte_0 rfl rfl ?_
  refine z_if_ltF hC (pc := 1) 15 dX12_setByte_1 (by decide) (by decide) ?_
  refine z_iload_n hC (pc := 4) 1 dX12_setByte_4 rfl rfl ?_
  refine z_aload_n hC (pc := 5) 0 dX12_setByte_5 rfl rfl ?_
  refine z_alen1 hC (pc := 6) (v := 20) 0 dX12_setByte_6 rfl rfl ?_
  refine z_icmp_geF hC (pc := 7) 15 dX12_setByte_7 (by decide) (by decide) ?_
  refine z_aload_n hC (pc := 10) 0 dX12_setByte_10 rfl rfl ?_
  refine z_iload_n hC (pc := 11) 1 dX12_setByte_11 rfl rfl ?_
  refine z_iload_n hC (pc := 12) 2 dX12_setByte_12 rfl rfl ?_
  refine z_i2b hC (pc := 13) (v := (x1).toInt8.toInt32) dX12_setByte_13 rfl ?_
  refine z_bast hC (pc := 14) (f' := (upd (upd (upd (upd (upd (upd (upd (upd (upd (upd (upd (upd (upd (upd (upd (upd (upd (upd (upd (fun _ => 0) 0 x2) 1 x3) 2 x4) 3 x5) 4 x6) 5 x7) 6 x8) 7 x9) 8 x10) 9 x11) 10 x12) 11 x13) 12 x14) 13 x15) 14 x16) 15 x17) 16 x18) 17 x19) 18 (vp_nar .byte (x1).toInt8.toInt32))) 0 [(h0, .inl (G.2.1 1, 20, .inl (upd (upd (upd (upd (upd (upd (upd (upd (upd (upd (upd (upd (upd (upd (upd (upd (upd (upd (upd (fun _ => 0) 0 x2) 1 x3) 2 x4) 3 x5) 4 x6) 5 x7) 6 x8) 7 x9) 8 x10) 9 x11) 10 x12) 11 x13) 12 x14) 13 x15) 14 x16) 15 x17) 16 x18) 17 x19) 18 (vp_nar .byte (x1).toInt8.toInt32))))] dX12_setByte_14 rfl (zvi rfl) rfl rfl ?_
  exact hR _ _ _ _ _ dX12_setByte_15 (Nat.le_of_ble_eq_true rfl) (Nat.le_of_ble_eq_true rfl) rfl
set_option maxRecDepth 100000 in
theorem kX12_setByte_39 (l : Launch) (G : zG) (h0 : Nat) (x1 : Int32) (x2 : Int32) (x3 : Int32) (x4 : Int32) (x5 : Int32) (x6 : Int32) (x7 : Int32) (x8 : Int32) (x9 : Int32) (x10 : Int32) (x11 : Int32) (x12 : Int32) (x13 : Int32) (x14 : Int32) (x15 : Int32) (x16 : Int32) (x17 : Int32) (x18 : Int32) (x19 : Int32) (x20 : Int32) : zMv l G yX12_setByte cX12_setByte 3 0 0 0 0 [.ref h0, .int 19, .int x1] [(h0, .inl (G.2.1 1, 20, .inl (upd (upd (upd (upd (upd (upd (upd (upd (upd (upd (upd (upd (upd (upd (upd (upd (upd (upd (upd (fun _ => 0) 0 x2) 1 x3) 2 x4) 3 x5) 4 x6) 5 x7) 6 x8) 7 x9) 8 x10) 9 x11) 10 x12) 11 x13) 12 x14) 13 x15) 14 x16) 15 x17) 16 x18) 17 x19) 18 x20)))] (fun w => w = [(h0, .inl (G.2.1 1, 20, .inl (upd (upd (upd (upd (upd (upd (upd (upd (upd (upd (upd (upd (upd (upd (upd (upd (upd (upd (upd (upd (fun _ => 0) 0 x2) 1 x3) 2 x4) 3 x5) 4 x6) 5 x7) 6 x8) 7 x9) 8 x10) 9 x11) 10 x12) 11 x13) 12 x14) 13 x15) 14 x16) 15 x17) 16 x18) 17 x19) 18 x20) 19 (vp_nar .byte (x1).toInt8.toInt32))))]) := by
  refine zMv.intro (by decide) (Nat.le_of_ble_eq_true rfl) (fun X hC hR => ?_)
  refine z_iload_n hC (pc := 0) 1 dX12_setByte_0 rfl rfl ?_
  refine z_if_ltF hC (pc := 1) 15 dX12_setByte_1 (by decide) (by decide) ?_
  refine z_iload_n hC (pc := 4) 1 dX12_setByte_4 rfl rfl ?_
  refine z_aload_n hC (pc := 5) 0 dX12_setByte_5 rfl rfl ?_
  refine z_alen1 hC (pc := 6) (v := 20) 0 dX12_setByte_6 rfl rfl ?_
  refine z_icmp_geF hC (pc := 7) 15 dX12_setByte_7 (by decide) (by decide) ?_
  refine z_aload_n hC (pc := 10) 0 dX12_setByte_10 rfl rfl ?_
  refine z_iload_n hC (pc := 11) 1 dX12_setByte_11 rfl rfl ?_
  refine z_iload_n hC (pc := 12) 2 dX12_setByte_12 rfl rfl ?_
  refine z_i2b hC (pc := 13) (v := (x1).toInt8.toInt32) dX12_setByte_13 rfl ?_
  refine z_bast hC (pc := 14) (f' := (upd (upd (upd (upd (upd (upd (upd (upd (upd (upd (upd (upd (upd (upd (upd (upd (upd (upd (upd (upd (fun _ => 0) 0 x2) 1 x3) 2 x4) 3 x5) 4 x6) 5 x7) 6 x8) 7 x9) 8 x10) 9 x11) 10 x12) 11 x13) 12 x14) 13 x15) 14 x16) 15 x17) 16 x18) 17 x19) 18 x20) 19 (vp_nar .byte (x1).toInt8.toInt32))) 0 [(h0, .inl (G.2.1 1, 20, .inl (upd (upd (upd (upd (upd (upd (upd (upd (upd (upd (upd (upd (upd (upd (upd (upd (upd (upd (upd (upd (fun _ => 0) 0 x2) 1 x3) 2 x4) 3 x5) 4 x6) 5 x7) 6 x8) 7 x9) 8 x10) 9 x11) 10 x12) 11 x13) 12 x14) 13 x15) 14 x16) 15 x17) 16 x18) 17 x19) 18 x20) 19 (vp_nar .byte (x1).toInt8.toInt32))))] dX12_setByte_14 rfl (zvi rfl) rfl rfl ?_
  exact hR _ _ _ _ _ dX12_setByte_15 (Nat.le_of_ble_eq_true rfl) (Nat.le_of_ble_eq_true rfl) rfl
set_option maxRecDepth 100000 in
theorem kX12_fourReady_40 (l : Launch) (G : zG) (h0 : Nat) (h1 : Nat) (x2 : Int32) (g3 : Nat) (g4 : Nat) (g5 : Nat) (g6 : Nat) (g7 : Nat) (g8 : Nat) (g9 : Nat) (g10 : Nat) (g11 : Nat) (g12 : Nat) (x13 : Int32) (x14 : Int32) (x15 : Int32) (x16 : Int32) (x17 : Int32) (x18 : Int32) (x19 : Int32) (x20 : Int32) (x21 : Int32) (x22 : Int32) (x23 : Int32) (x24 : Int32) (x25 : Int32) (x26 : Int32) (x27 : Int32) (x28 : Int32) : zMv l G yX12_fourReady cX12_fourReady 4 1 22 0 0 [.ref h0, .int 16, .int x2] [(h0, .inr (12, [.ref h1, .ref g3, .int 0, .ref g4, .ref g5, .ref g6, .ref g7, .ref g8, .ref g9, .ref g10, .ref g11, .ref g12, .int 0, .int 0, .int (-1), .int (-1), .int 0, .int 0, .int 0])), (h1, .inl (G.2.1 1, 20, .inl (upd (upd (upd (upd (upd (upd (upd (upd (upd (upd (upd (upd (upd (upd (upd (upd (fun _ => 0) 0 x13) 1 x14) 2 x15) 3 x16) 4 x17) 5 x18) 6 x19) 7 x20) 8 x21) 9 x22) 10 x23) 11 x24) 12 x25) 13 x26) 14 x27) 15 x28)))] (fun w => w = [(h0, .inr (12, [.ref h1, .ref g3, .int 0, .ref g4, .ref g5, .ref g6, .ref g7, .ref g8, .ref g9, .ref g10, .ref g11, .ref g12, .int 0, .int 0, .int (-1), .int (-1), .int 0, .int 0, .int 0])), (h1, .inl (G.2.1 1, 20, .inl (upd (upd (upd (upd (upd (upd (upd (upd (upd (upd (upd (upd (upd (upd (upd (upd (upd (upd (upd (upd (fun _ => 0) 0 x13) 1 x14) 2 x15) 3 x16) 4 x17) 5 x18) 6 x19) 7 x20) 8 x21) 9 x22) 10 x23) 11 x24) 12 x25) 13 x26) 14 x27) 15 x28) 16 (vp_nar .byte (((x2 : Int32).toUInt32 >>> ((24 : Int32).toUInt32 &&& Int32.toUInt32 31)).toInt32).toInt8.toInt32)) 17 (vp_nar .byte (((x2 : Int32).toUInt32 >>> ((16 : Int32).toUInt32 &&& Int32.toUInt32 31)).toInt32).toInt8.toInt32)) 18 (vp_nar .byte (((x2 : Int32).toUInt32 >>> ((8 : Int32).toUInt32 &&& Int32.toUInt32 31)).toInt32).toInt8.toInt32)) 19 (vp_nar .byte (((x2 : Int32).toUInt32 >>> ((0 : Int32).toUInt32 &&& Int32.toUInt32 31)).toInt32).toInt8.toInt32))))]) := by
  refine zMv.intro (by decide) (Nat.le_of_ble_eq_true rfl) (fun X hC hR => ?_)
  refine z_iconst hC (pc := 0) (v := 0) dX12_fourReady_0 (by decide) ?_
  refine z_istore_n hC (pc := 1) (lv' := [(3, .int 0), (0, .ref h0), (1, .int 16), (2, .int x2)]) dX12_fourReady_1 rfl (by decide) rfl ?_
  refine z_iload_n hC (pc := 2) 0 dX12_fourReady_2 rfl rfl ?_
  refine z_iconst hC (pc := 3) (v := 4) dX12_fourReady_3 (by decide) ?_
  refine z_icmp_geF hC (pc := 4) 32 dX12_fourReady_4 (by decide) (by decide) ?_
  refine z_aload_n hC (pc := 7) 1 dX12_fourReady_7 rfl rfl ?_
  refine z_get hC (pc := 8) zf12 0 0 dX12_fourReady_8 zw708 rfl rfl (kk := ?_)
  refine z_iload_n hC (pc := 11) 2 dX12_fourReady_11 rfl rfl ?_
  refine z_iload_n hC (pc := 12) 0 dX12_fourReady_12 rfl rfl ?_
  refine z_iadd hC (pc := 13) (v := 16) dX12_fourReady_13 (by decide) ?_
  refine z_iload_n hC (pc := 14) 3 dX12_fourReady_14 rfl rfl ?_
  refine z_bipush hC (pc := 15) (v := 24) dX12_fourReady_15 (by decide) ?_
  refine z_bipush hC (pc := 17) (v := 8) dX12_fourReady_17 (by decide) ?_
  refine z_iload_n hC (pc := 19) 0 dX12_fourReady_19 rfl rfl ?_
  refine z_imul hC (pc := 20) (v := 0) dX12_fourReady_20 (by decide) ?_
  refine z_isub hC (pc := 21) (v := 24) dX12_fourReady_21 (by decide) ?_
  refine z_iushr hC (pc := 22) (v := ((x2 : Int32).toUInt32 >>> ((24 : Int32).toUInt32 &&& Int32.toUInt32 31)).toInt32) dX12_fourReady_22 rfl ?_
  refine z_callSv hC (pc := 23) (k := 0) (n := 0) (As := [.ref h1, .int 16, .int (((x2 : Int32).toUInt32 >>> ((24 : Int32).toUInt32 &&& Int32.toUInt32 31)).toInt32)]) (wr := [(h0, .inr (12, [.ref h1, .ref g3, .int 0, .ref g4, .ref g5, .ref g6, .ref g7, .ref g8, .ref g9, .ref g10, .ref g11, .ref g12, .int 0, .int 0, .int (-1), .int (-1), .int 0, .int 0, .int 0]))]) (kX12_setByte_36 l G h1 ((x2 : Int32).toUInt32 >>> ((24 : Int32).toUInt32 &&& Int32.toUInt32 31)).toInt32 x13 x14 x15 x16 x17 x18 x19 x20 x21 x22 x23 x24 x25 x26 x27 x28) dmX12_setByte [1] [0] rfl rfl rfl dX12_fourReady_23 zw774 rfl rfl (Nat.le_of_ble_eq_true rfl) (Nat.le_of_ble_eq_true rfl) (Nat.le_of_ble_eq_true rfl) (Nat.le_of_ble_eq_true rfl) (Nat.le_of_ble_eq_true rfl) (fun w hp => ?_)
  obtain rfl := hp
  refine z_iinc hC (pc := 26) (v := 1) (lv' := [(3, .int 1), (0, .ref h0), (1, .int 16), (2, .int x2)]) 0 dX12_fourReady_26 rfl (by decide) (by decide) rfl ?_
  refine z_goto hC (pc := 29) 2 dX12_fourReady_29 (by decide) ?_
  refine z_iload_n hC (pc := 2) 0 dX12_fourReady_2 rfl rfl ?_
  refine z_iconst hC (pc := 3) (v := 4) dX12_fourReady_3 (by decide) ?_
  refine z_icmp_geF hC (pc := 4) 32 dX12_fourReady_4 (by decide) (by decide) ?_
  refine z_aload_n hC (pc := 7) 1 dX12_fourReady_7 rfl rfl ?_
  refine z_get hC (pc := 8) zf12 0 0 dX12_fourReady_8 zw708 rfl rfl (kk := ?_)
  refine z_iload_n hC (pc := 11) 2 dX12_fourReady_11 rfl rfl ?_
  refine z_iload_n hC (pc := 12) 0 dX12_fourReady_12 rfl rfl ?_
  refine z_iadd hC (pc := 13) (v := 17) dX12_fourReady_13 (by decide) ?_
  refine z_iload_n hC (pc := 14) 3 dX12_fourReady_14 rfl rfl ?_
  refine z_bipush hC (pc := 15) (v := 24) dX12_fourReady_15 (by decide) ?_
  refine z_bipush hC (pc := 17) (v := 8) dX12_fourReady_17 (by decide) ?_
  refine z_iload_n hC (pc := 19) 0 dX12_fourReady_19 rfl rfl ?_
  refine z_imul hC (pc := 20) (v := 8) dX12_fourReady_20 (by decide) ?_
  refine z_isub hC (pc := 21) (v := 16) dX12_fourReady_21 (by decide) ?_
  refine z_iushr hC (pc := 22) (v := ((x2 : Int32).toUInt32 >>> ((16 : Int32).toUInt32 &&& Int32.toUInt32 31)).toInt32) dX12_fourReady_22 rfl ?_
  refine z_callSv hC (pc := 23) (k := 0) (n := 0) (As := [.ref h1, .int 17, .int (((x2 : Int32).toUInt32 >>> ((16 : Int32).toUInt32 &&& Int32.toUInt32 31)).toInt32)]) (wr := [(h0, .inr (12, [.ref h1, .ref g3, .int 0, .ref g4, .ref g5, .ref g6, .ref g7, .ref g8, .ref g9, .ref g10, .ref g11, .ref g12, .int 0, .int 0, .int (-1), .int (-1), .int 0, .int 0, .int 0]))]) (kX12_setByte_37 l G h1 ((x2 : Int32).toUInt32 >>> ((16 : Int32).toUInt32 &&& Int32.toUInt32 31)).toInt32 x13 x14 x15 x16 x17 x18 x19 x20 x21 x22 x23 x24 x25 x26 x27 x28 (vp_nar .byte (((x2 : Int32).toUInt32 >>> ((24 : Int32).toUInt32 &&& Int32.toUInt32 31)).toInt32).toInt8.toInt32)) dmX12_setByte [1] [0] rfl rfl rfl dX12_fourReady_23 zw774 rfl rfl (Nat.le_of_ble_eq_true rfl) (Nat.le_of_ble_eq_true rfl) (Nat.le_of_ble_eq_true rfl) (Nat.le_of_ble_eq_true rfl) (Nat.le_of_ble_eq_true rfl) (fun w hp => ?_)
  obtain rfl := hp
  refine z_iinc hC (pc := 26) (v := 2) (lv' := [(3, .int 2), (0, .ref h0), (1, .int 16), (2, .int x2)]) 0 dX12_fourReady_26 rfl (by decide) (by decide) rfl ?_
  refine z_goto hC (pc := 29) 2 dX12_fourReady_29 (by decide) ?_
  refine z_iload_n hC (pc := 2) 0 dX12_fourReady_2 rfl rfl ?_
  refine z_iconst hC (pc := 3) (v := 4) dX12_fourReady_3 (by decide) ?_
  refine z_icmp_geF hC (pc := 4) 32 dX12_fourReady_4 (by decide) (by decide) ?_
  refine z_aload_n hC (pc := 7) 1 dX12_fourReady_7 rfl rfl ?_
  refine z_get hC (pc := 8) zf12 0 0 dX12_fourReady_8 zw708 rfl rfl (kk := ?_)
  refine z_iload_n hC (pc := 11) 2 dX12_fourReady_11 rfl rfl ?_
  refine z_iload_n hC (pc := 12) 0 dX12_fourReady_12 rfl rfl ?_
  refine z_iadd hC (pc := 13) (v := 18) dX12_fourReady_13 (by decide) ?_
  refine z_iload_n hC (pc := 14) 3 dX12_fourReady_14 rfl rfl ?_
  refine z_bipush hC (pc := 15) (v := 24) dX12_fourReady_15 (by decide) ?_
  refine z_bipush hC (pc := 17) (v := 8) dX12_fourReady_17 (by decide) ?_
  refine z_iload_n hC (pc := 19) 0 dX12_fourReady_19 rfl rfl ?_
  refine z_imul hC (pc := 20) (v := 16) dX12_fourReady_20 (by decide) ?_
  refine z_isub hC (pc := 21) (v := 8) dX12_fourReady_21 (by decide) ?_
  refine z_iushr hC (pc := 22) (v := ((x2 : Int32).toUInt32 >>> ((8 : Int32).toUInt32 &&& Int32.toUInt32 31)).toInt32) dX12_fourReady_22 rfl ?_
  refine z_callSv hC (pc := 23) (k := 0) (n := 0) (As := [.ref h1, .int 18, .int (((x2 : Int32).toUInt32 >>> ((8 : Int32).toUInt32 &&& Int32.toUInt32 31)).toInt32)]) (wr := [(h0, .inr (12, [.ref h1, .ref g3, .int 0, .ref g4, .ref g5, .ref g6, .ref g7, .ref g8, .ref g9, .ref g10, .ref g11, .ref g12, .int 0, .int 0, .int (-1), .int (-1), .int 0, .int 0, .int 0]))]) (kX12_setByte_38 l G h1 ((x2 : Int32).toUInt32 >>> ((8 : Int32).toUInt32 &&& Int32.toUInt32 31)).toInt32 x13 x14 x15 x16 x17 x18 x19 x20 x21 x22 x23 x24 x25 x26 x27 x28 (vp_nar .byte (((x2 : Int32).toUInt32 >>> ((24 : Int32).toUInt32 &&& Int32.toUInt32 31)).toInt32).toInt8.toInt32) (vp_nar .byte (((x2 : Int32).toUInt32 >>> ((16 : Int32).toUInt32 &&& Int32.toUInt32 31)).toInt32).toInt8.toInt32)) dmX12_setByte [1] [0] rfl rfl rfl dX12_fourReady_23 zw774 rfl rfl (Nat.le_of_ble_eq_true rfl) (Nat.le_of_ble_eq_true rfl) (Nat.le_of_ble_eq_true rfl) (Nat.le_of_ble_eq_true rfl) (Nat.le_of_ble_eq_true rfl) (fun w hp => ?_)
  obtain rfl := hp
  refine z_iinc hC (pc := 26) (v := 3) (lv' := [(3, .int 3), (0, .ref h0), (1, .int 16), (2, .int x2)]) 0 dX12_fourReady_26 rfl (by decide) (by decide) rfl ?_
  refine z_goto hC (pc := 29) 2 dX12_fourReady_29 (by decide) ?_
  refine z_iload_n hC (pc := 2) 0 dX12_fourReady_2 rfl rfl ?_
  refine z_iconst hC (pc := 3) (v := 4) dX12_fourReady_3 (by decide) ?_
  refine z_icmp_geF hC (pc := 4) 32 dX12_fourReady_4 (by decide) (by decide) ?_
  refine z_aload_n hC (pc := 7) 1 dX12_fourReady_7 rfl rfl ?_
  refine z_get hC (pc := 8) zf12 0 0 dX12_fourReady_8 zw708 rfl rfl (kk := ?_)
  refine z_iload_n hC (pc := 11) 2 dX12_fourReady_11 rfl rfl ?_
  refine z_iload_n hC (pc := 12) 0 dX12_fourReady_12 rfl rfl ?_
  refine z_iadd hC (pc := 13) (v := 19) dX12_fourReady_13 (by decide) ?_
  refine z_iload_n hC (pc := 14) 3 dX12_fourReady_14 rfl rfl ?_
  refine z_bipush hC (pc := 15) (v := 24) dX12_fourReady_15 (by decide) ?_
  refine z_bipush hC (pc := 17) (v := 8) dX12_fourReady_17 (by decide) ?_
  refine z_iload_n hC (pc := 19) 0 dX12_fourReady_19 rfl rfl ?_
  refine z_imul hC (pc := 20) (v := 24) dX12_fourReady_20 (by decide) ?_
  refine z_isub hC (pc := 21) (v := 0) dX12_fourReady_21 (by decide) ?_
  refine z_iushr hC (pc := 22) (v := ((x2 : Int32).toUInt32 >>> ((0 : Int32).toUInt32 &&& Int32.toUInt32 31)).toInt32) dX12_fourReady_22 rfl ?_
  refine z_callSv hC (pc := 23) (k := 0) (n := 0) (As := [.ref h1, .int 19, .int (((x2 : Int32).toUInt32 >>> ((0 : Int32).toUInt32 &&& Int32.toUInt32 31)).toInt32)]) (wr := [(h0, .inr (12, [.ref h1, .ref g3, .int 0, .ref g4, .ref g5, .ref g6, .ref g7, .ref g8, .ref g9, .ref g10, .ref g11, .ref g12, .int 0, .int 0, .int (-1), .int (-1), .int 0, .int 0, .int 0]))]) (kX12_setByte_39 l G h1 ((x2 : Int32).toUInt32 >>> ((0 : Int32).toUInt32 &&& Int32.toUInt32 31)).toInt32 x13 x14 x15 x16 x17 x18 x19 x20 x21 x22 x23 x24 x25 x26 x27 x28 (vp_nar .byte (((x2 : Int32).toUInt32 >>> ((24 : Int32).toUInt32 &&& Int32.toUInt32 31)).toInt32).toInt8.toInt32) (vp_nar .byte (((x2 : Int32).toUInt32 >>> ((16 : Int32).toUInt32 &&& Int32.toUInt32 31)).toInt32).toInt8.toInt32) (vp_nar .byte (((x2 : Int32).toUInt32 >>> ((8 : Int32).toUInt32 &&& Int32.toUInt32 31)).toInt32).toInt8.toInt32)) dmX12_setByte [1] [0] rfl rfl rfl dX12_fourReady_23 zw774 rfl rfl (Nat.le_of_ble_eq_true rfl) (Nat.le_of_ble_eq_true rfl) (Nat.le_of_ble_eq_true rfl) (Nat.le_of_ble_eq_true rfl) (Nat.le_of_ble_eq_true rfl) (fun w hp => ?_)
  obtain rfl := hp
  refine z_iinc hC (pc := 26) (v := 4) (lv' := [(3, .int 4), (0, .ref h0), (1, .int 16), (2, .int x2)]) 0 dX12_fourReady_26 rfl (by decide) (by decide) rfl ?_
  refine z_goto hC (pc := 29) 2 dX12_fourReady_29 (by decide) ?_
  refine z_iload_n hC (pc := 2) 0 dX12_fourReady_2 rfl rfl ?_
  refine z_iconst hC (pc := 3) (v := 4) dX12_fourReady_3 (by decide) ?_
  refine z_icmp_geT hC (pc := 4) 32 dX12_fourReady_4 (by decide) (by decide) ?_
  exact hR _ _ _ _ _ dX12_fourReady_32 (Nat.le_of_ble_eq_true rfl) (Nat.le_of_ble_eq_true rfl) rfl
set_option maxRecDepth 100000 in
theorem pfeed_c (l : Launch) (G : zG) (h0 : Nat) (h1 : Nat) (x2 : Int32) (x3 : Int32) (x4 : Int32) (x5 : Int32) (x6 : Int32) (g7 : Nat) (g8 : Nat) (g9 : Nat) (g10 : Nat) (g11 : Nat) (g12 : Nat) (g13 : Nat) (g14 : Nat) (g15 : Nat) (g16 : Nat) : zMv l G yX12_feed cX12_feed 6 2 45 0 0 [.ref h0, .int x2, .int x3, .int x4, .int x5, .int x6] [(h0, .inr (12, [.ref h1, .ref g7, .int 0, .ref g8, .ref g9, .ref g10, .ref g11, .ref g12, .ref g13, .ref g14, .ref g15, .ref g16, .int 0, .int 0, .int (-1), .int (-1), .int 0, .int 0, .int 0])), (h1, .inl (G.2.1 1, 20, .inl (fun _ => 0)))] (fun w => True) := by
  refine zMv.intro (by decide) (Nat.le_of_ble_eq_true rfl) (fun X hC hR => ?_)
  refine z_aload_n hC (pc := 0) 0 dX12_feed_0 rfl rfl ?_
  refine z_iconst hC (pc := 1) (v := 0) dX12_feed_1 (by decide) ?_
  refine z_iload_n hC (pc := 2) 1 dX12_feed_2 rfl rfl ?_
  refine z_callVv hC (pc := 3) (k := 0) (n := 0) (As := [.int 0, .int x2]) (wr := []) (kX12_fourReady_20 l G h0 h1 x2 g7 g8 g9 g10 g11 g12 g13 g14 g15 g16) dmX12_fourReady zf12 0 rfl [0, 1] [] rfl rfl rfl dX12_feed_3 zw770 rfl rfl (Nat.le_of_ble_eq_true rfl) (Nat.le_of_ble_eq_true rfl) (Nat.le_of_ble_eq_true rfl) (Nat.le_of_ble_eq_true rfl) (Nat.le_of_ble_eq_true rfl) (fun w hp => ?_)
  obtain rfl := hp
  refine z_aload_n hC (pc := 6) 0 dX12_feed_6 rfl rfl ?_
  refine z_iconst hC (pc := 7) (v := 4) dX12_feed_7 (by decide) ?_
  refine z_iload_n hC (pc := 8) 2 dX12_feed_8 rfl rfl ?_
  refine z_callVv hC (pc := 9) (k := 0) (n := 0) (As := [.int 4, .int x3]) (wr := []) (kX12_fourReady_25 l G h0 h1 x3 g7 g8 g9 g10 g11 g12 g13 g14 g15 g16 (vp_nar .byte (((x2 : Int32).toUInt32 >>> ((24 : Int32).toUInt32 &&& Int32.toUInt32 31)).toInt32).toInt8.toInt32) (vp_nar .byte (((x2 : Int32).toUInt32 >>> ((16 : Int32).toUInt32 &&& Int32.toUInt32 31)).toInt32).toInt8.toInt32) (vp_nar .byte (((x2 : Int32).toUInt32 >>> ((8 : Int32).toUInt32 &&& Int32.toUInt32 31)).toInt32).toInt8.toInt32) (vp_nar .byte (((x2 : Int32).toUInt32 >>> ((0 : Int32).toUInt32 &&& Int32.toUInt32 31)).toInt32).toInt8.toInt32)) dmX12_fourReady zf12 0 rfl [0, 1] [] rfl rfl rfl dX12_feed_9 zw770 rfl rfl (Nat.le_of_ble_eq_true rfl) (Nat.le_of_ble_eq_true rfl) (Nat.le_of_ble_eq_true rfl) (Nat.le_of_ble_eq_true rfl) (Nat.le_of_ble_eq_true rfl) (fun w hp => ?_)
  obtain rfl := hp
  refine z_aload_n hC (pc := 12) 0 dX12_feed_12 rfl rfl ?_
  refine z_bipush hC (pc := 13) (v := 8) dX12_feed_13 (by decide) ?_
  refine z_iload_n hC (pc := 15) 3 dX12_feed_15 rfl rfl ?_
  refine z_callVv hC (pc := 16) (k := 0) (n := 0) (As := [.int 8, .int x4]) (wr := []) (kX12_fourReady_30 l G h0 h1 x4 g7 g8 g9 g10 g11 g12 g13 g14 g15 g16 (vp_nar .byte (((x2 : Int32).toUInt32 >>> ((24 : Int32).toUInt32 &&& Int32.toUInt32 31)).toInt32).toInt8.toInt32) (vp_nar .byte (((x2 : Int32).toUInt32 >>> ((16 : Int32).toUInt32 &&& Int32.toUInt32 31)).toInt32).toInt8.toInt32) (vp_nar .byte (((x2 : Int32).toUInt32 >>> ((8 : Int32).toUInt32 &&& Int32.toUInt32 31)).toInt32).toInt8.toInt32) (vp_nar .byte (((x2 : Int32).toUInt32 >>> ((0 : Int32).toUInt32 &&& Int32.toUInt32 31)).toInt32).toInt8.toInt32) (vp_nar .byte (((x3 : Int32).toUInt32 >>> ((24 : Int32).toUInt32 &&& Int32.toUInt32 31)).toInt32).toInt8.toInt32) (vp_nar .byte (((x3 : Int32).toUInt32 >>> ((16 : Int32).toUInt32 &&& Int32.toUInt32 31)).toInt32).toInt8.toInt32) (vp_nar .byte (((x3 : Int32).toUInt32 >>> ((8 : Int32).toUInt32 &&& Int32.toUInt32 31)).toInt32).toInt8.toInt32) (vp_nar .byte (((x3 : Int32).toUInt32 >>> ((0 : Int32).toUInt32 &&& Int32.toUInt32 31)).toInt32).toInt8.toInt32)) dmX12_fourReady zf12 0 rfl [0, 1] [] rfl rfl rfl dX12_feed_16 zw770 rfl rfl (Nat.le_of_ble_eq_true rfl) (Nat.le_of_ble_eq_true rfl) (Nat.le_of_ble_eq_true rfl) (Nat.le_of_ble_eq_true rfl) (Nat.le_of_ble_eq_true rfl) (fun w hp => ?_)
  obtain rfl := hp
  refine z_aload_n hC (pc := 19) 0 dX12_feed_19 rfl rfl ?_
  refine z_bipush hC (pc := 20) (v := 12) dX12_feed_20 (by decide) ?_
  refine z_iload hC (pc := 22) 4 dX12_feed_22 rfl ?_
  refine z_callVv hC (pc := 24) (k := 0) (n := 0) (As := [.int 12, .int x5]) (wr := []) (kX12_fourReady_35 l G h0 h1 x5 g7 g8 g9 g10 g11 g12 g13 g14 g15 g16 (vp_nar .byte (((x2 : Int32).toUInt32 >>> ((24 : Int32).toUInt32 &&& Int32.toUInt32 31)).toInt32).toInt8.toInt32) (vp_nar .byte (((x2 : Int32).toUInt32 >>> ((16 : Int32).toUInt32 &&& Int32.toUInt32 31)).toInt32).toInt8.toInt32) (vp_nar .byte (((x2 : Int32).toUInt32 >>> ((8 : Int32).toUInt32 &&& Int32.toUInt32 31)).toInt32).toInt8.toInt32) (vp_nar .byte (((x2 : Int32).toUInt32 >>> ((0 : Int32).toUInt32 &&& Int32.toUInt32 31)).toInt32).toInt8.toInt32) (vp_nar .byte (((x3 : Int32).toUInt32 >>> ((24 : Int32).toUInt32 &&& Int32.toUInt32 31)).toInt32).toInt8.toInt32) (vp_nar .byte (((x3 : Int32).toUInt32 >>> ((16 : Int32).toUInt32 &&& Int32.toUInt32 31)).toInt32).toInt8.toInt32) (vp_nar .byte (((x3 : Int32).toUInt32 >>> ((8 : Int32).toUInt32 &&& Int32.toUInt32 31)).toInt32).toInt8.toInt32) (vp_nar .byte (((x3 : Int32).toUInt32 >>> ((0 : Int32).toUInt32 &&& Int32.toUInt32 31)).toInt32).toInt8.toInt32) (vp_nar .byte (((x4 : Int32).toUInt32 >>> ((24 : Int32).toUInt32 &&& Int32.toUInt32 31)).toInt32).toInt8.toInt32) (vp_nar .byte (((x4 : Int32).toUInt32 >>> ((16 : Int32).toUInt32 &&& Int32.toUInt32 31)).toInt32).toInt8.toInt32) (vp_nar .byte (((x4 : Int32).toUInt32 >>> ((8 : Int32).toUInt32 &&& Int32.toUInt32 31)).toInt32).toInt8.toInt32) (vp_nar .byte (((x4 : Int32).toUInt32 >>> ((0 : Int32).toUInt32 &&& Int32.toUInt32 31)).toInt32).toInt8.toInt32)) dmX12_fourReady zf12 0 rfl [0, 1] [] rfl rfl rfl dX12_feed_24 zw770 rfl rfl (Nat.le_of_ble_eq_true rfl) (Nat.le_of_ble_eq_true rfl) (Nat.le_of_ble_eq_true rfl) (Nat.le_of_ble_eq_true rfl) (Nat.le_of_ble_eq_true rfl) (fun w hp => ?_)
  obtain rfl := hp
  refine z_aload_n hC (pc := 27) 0 dX12_feed_27 rfl rfl ?_
  refine z_bipush hC (pc := 28) (v := 16) dX12_feed_28 (by decide) ?_
  refine z_iload hC (pc := 30) 5 dX12_feed_30 rfl ?_
  refine z_callVv hC (pc := 32) (k := 0) (n := 0) (As := [.int 16, .int x6]) (wr := []) (kX12_fourReady_40 l G h0 h1 x6 g7 g8 g9 g10 g11 g12 g13 g14 g15 g16 (vp_nar .byte (((x2 : Int32).toUInt32 >>> ((24 : Int32).toUInt32 &&& Int32.toUInt32 31)).toInt32).toInt8.toInt32) (vp_nar .byte (((x2 : Int32).toUInt32 >>> ((16 : Int32).toUInt32 &&& Int32.toUInt32 31)).toInt32).toInt8.toInt32) (vp_nar .byte (((x2 : Int32).toUInt32 >>> ((8 : Int32).toUInt32 &&& Int32.toUInt32 31)).toInt32).toInt8.toInt32) (vp_nar .byte (((x2 : Int32).toUInt32 >>> ((0 : Int32).toUInt32 &&& Int32.toUInt32 31)).toInt32).toInt8.toInt32) (vp_nar .byte (((x3 : Int32).toUInt32 >>> ((24 : Int32).toUInt32 &&& Int32.toUInt32 31)).toInt32).toInt8.toInt32) (vp_nar .byte (((x3 : Int32).toUInt32 >>> ((16 : Int32).toUInt32 &&& Int32.toUInt32 31)).toInt32).toInt8.toInt32) (vp_nar .byte (((x3 : Int32).toUInt32 >>> ((8 : Int32).toUInt32 &&& Int32.toUInt32 31)).toInt32).toInt8.toInt32) (vp_nar .byte (((x3 : Int32).toUInt32 >>> ((0 : Int32).toUInt32 &&& Int32.toUInt32 31)).toInt32).toInt8.toInt32) (vp_nar .byte (((x4 : Int32).toUInt32 >>> ((24 : Int32).toUInt32 &&& Int32.toUInt32 31)).toInt32).toInt8.toInt32) (vp_nar .byte (((x4 : Int32).toUInt32 >>> ((16 : Int32).toUInt32 &&& Int32.toUInt32 31)).toInt32).toInt8.toInt32) (vp_nar .byte (((x4 : Int32).toUInt32 >>> ((8 : Int32).toUInt32 &&& Int32.toUInt32 31)).toInt32).toInt8.toInt32) (vp_nar .byte (((x4 : Int32).toUInt32 >>> ((0 : Int32).toUInt32 &&& Int32.toUInt32 31)).toInt32).toInt8.toInt32) (vp_nar .byte (((x5 : Int32).toUInt32 >>> ((24 : Int32).toUInt32 &&& Int32.toUInt32 31)).toInt32).toInt8.toInt32) (vp_nar .byte (((x5 : Int32).toUInt32 >>> ((16 : Int32).toUInt32 &&& Int32.toUInt32 31)).toInt32).toInt8.toInt32) (vp_nar .byte (((x5 : Int32).toUInt32 >>> ((8 : Int32).toUInt32 &&& Int32.toUInt32 31)).toInt32).toInt8.toInt32) (vp_nar .byte (((x5 : Int32).toUInt32 >>> ((0 : Int32).toUInt32 &&& Int32.toUInt32 31)).toInt32).toInt8.toInt32)) dmX12_fourReady zf12 0 rfl [0, 1] [] rfl rfl rfl dX12_feed_32 zw770 rfl rfl (Nat.le_of_ble_eq_true rfl) (Nat.le_of_ble_eq_true rfl) (Nat.le_of_ble_eq_true rfl) (Nat.le_of_ble_eq_true rfl) (Nat.le_of_ble_eq_true rfl) (fun w hp => ?_)
  obtain rfl := hp
  exact hR _ _ _ _ _ dX12_feed_35 (Nat.le_of_ble_eq_true rfl) (Nat.le_of_ble_eq_true rfl) trivial
