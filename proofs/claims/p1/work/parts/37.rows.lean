set_option maxRecDepth 100000 in
theorem kX12_getByte_114 (l : Launch) (G : zG) (h0 : Nat) : zMi l G yX12_getByte cX12_getByte 2 .int 0 0 0 0 [.ref h0, .int 18] [(h0, .inl (G.2.1 1, 20, .inl (fun _ => 0)))] (fun r w => r = 0 ∧ w = [(h0, .inl (G.2.1 1, 20, .inl (fun _ => 0)))]) := by
  refine zMi.intro (by decide) (Nat.le_of_ble_eq_true rfl) (fun X hC hR => ?_)
  refine z_iload_n hC (pc := 0) 1 dX12_getByte_0 rfl rfl ?_
  refine z_if_ltF hC (pc := 1) 20 dX12_getByte_1 (by decide) (by decide) ?_
  refine z_iload_n hC (pc := 4) 1 dX12_getByte_4 rfl rfl ?_
  refine z_aload_n hC (pc := 5) 0 dX12_getByte_5 rfl rfl ?_
  refine z_alen1 hC (pc := 6) (v := 20) 0 dX12_getByte_6 rfl rfl ?_
  refine z_icmp_geF hC (pc := 7) 20 dX12_getByte_7 (by decide) (by decide) ?_
  refine z_aload_n hC (pc := 10) 0 dX12_getByte_10 rfl rfl ?_
  refine z_iload_n hC (pc := 11) 1 dX12_getByte_11 rfl rfl ?_
  refine z_bald hC (pc := 12) (v := 0) 0 dX12_getByte_12 rfl (zvi rfl) rfl ?_
  refine z_sipush hC (pc := 13) (v := 255) dX12_getByte_13 (by decide) ?_
  refine z_iand hC (pc := 16) (v := 0) dX12_getByte_16 (by decide) ?_
  refine z_goto hC (pc := 17) 21 dX12_getByte_17 (by decide) ?_
  exact hR _ _ _ _ _ _ dX12_getByte_21 rfl (Nat.le_of_ble_eq_true rfl) (Nat.le_of_ble_eq_true rfl) ⟨rfl, rfl⟩
set_option maxRecDepth 100000 in
theorem kX12_setByte_115 (l : Launch) (G : zG) (h0 : Nat) : zMv l G yX12_setByte cX12_setByte 3 0 0 0 0 [.ref h0, .int 18, .int 0] [(h0, .inl (G.2.1 1, 4000, .inl (upd (upd (upd (upd (upd (upd (upd (upd (upd (upd (upd (upd (upd (upd (upd (upd (upd (upd (fun _ => 0) 0 0) 1 0) 2 0) 3 0) 4 0) 5 0) 6 0) 7 0) 8 0) 9 0) 10 0) 11 0) 12 0) 13 0) 14 0) 15 0) 16 0) 17 0)))] (fun w => w = [(h0, .inl (G.2.1 1, 4000, .inl (upd (upd (upd (upd (upd (upd (upd (upd (upd (upd (upd (upd (upd (upd (upd (upd (upd (upd (upd (fun _ => 0) 0 0) 1 0) 2 0) 3 0) 4 0) 5 0) 6 0) 7 0) 8 0) 9 0) 10 0) 11 0) 12 0) 13 0) 14 0) 15 0) 16 0) 17 0) 18 0)))]) := by
  refine zMv.intro (by decide) (Nat.le_of_ble_eq_true rfl) (fun X hC hR => ?_)
  refine z_iload_n hC (pc := 0) 1 dX12_setByte_0 rfl rfl ?_
  refine z_if_ltF hC (pc := 1) 15 dX12_setByte_1 (by decide) (by decide) ?_
  refine z_iload_n hC (pc := 4) 1 dX12_setByte_4 rfl rfl ?_
  refine z_aload_n hC (pc := 5) 0 dX12_setByte_5 rfl rfl ?_
  refine z_alen1 hC (pc := 6) (v := 4000) 0 dX12_setByte_6 rfl rfl ?_
  refine z_icmp_geF hC (pc := 7) 15 dX12_setByte_7 (by decide) (by decide) ?_
  refine z_aload_n hC (pc := 10) 0 dX12_setByte_10 rfl rfl ?_
  refine z_iload_n hC (pc := 11) 1 dX12_setByte_11 rfl rfl ?_
  refine z_iload_n hC (pc := 12) 2 dX12_setByte_12 rfl rfl ?_
  refine z_i2b hC (pc := 13) (v := 0) dX12_setByte_13 (by decide) ?_
  refine z_bast hC (pc := 14) (f' := (upd (upd (upd (upd (upd (upd (upd (upd (upd (upd (upd (upd (upd (upd (upd (upd (upd (upd (upd (fun _ => 0) 0 0) 1 0) 2 0) 3 0) 4 0) 5 0) 6 0) 7 0) 8 0) 9 0) 10 0) 11 0) 12 0) 13 0) 14 0) 15 0) 16 0) 17 0) 18 0)) 0 [(h0, .inl (G.2.1 1, 4000, .inl (upd (upd (upd (upd (upd (upd (upd (upd (upd (upd (upd (upd (upd (upd (upd (upd (upd (upd (upd (fun _ => 0) 0 0) 1 0) 2 0) 3 0) 4 0) 5 0) 6 0) 7 0) 8 0) 9 0) 10 0) 11 0) 12 0) 13 0) 14 0) 15 0) 16 0) 17 0) 18 0)))] dX12_setByte_14 rfl (zvi rfl) rfl rfl ?_
  exact hR _ _ _ _ _ dX12_setByte_15 (Nat.le_of_ble_eq_true rfl) (Nat.le_of_ble_eq_true rfl) rfl
set_option maxRecDepth 100000 in
theorem kX12_getByte_116 (l : Launch) (G : zG) (h0 : Nat) : zMi l G yX12_getByte cX12_getByte 2 .int 0 0 0 0 [.ref h0, .int 19] [(h0, .inl (G.2.1 1, 20, .inl (fun _ => 0)))] (fun r w => r = 0 ∧ w = [(h0, .inl (G.2.1 1, 20, .inl (fun _ => 0)))]) := by
  refine zMi.intro (by decide) (Nat.le_of_ble_eq_true rfl) (fun X hC hR => ?_)
  refine z_iload_n hC (pc := 0) 1 dX12_getByte_0 rfl rfl ?_
  refine z_if_ltF hC (pc := 1) 20 dX12_getByte_1 (by decide) (by decide) ?_
  refine z_iload_n hC (pc := 4) 1 dX12_getByte_4 rfl rfl ?_
  refine z_aload_n hC (pc := 5) 0 dX12_getByte_5 rfl rfl ?_
  refine z_alen1 hC (pc := 6) (v := 20) 0 dX12_getByte_6 rfl rfl ?_
  refine z_icmp_geF hC (pc := 7) 20 dX12_getByte_7 (by decide) (by decide) ?_
  refine z_aload_n hC (pc := 10) 0 dX12_getByte_10 rfl rfl ?_
  refine z_iload_n hC (pc := 11) 1 dX12_getByte_11 rfl rfl ?_
  refine z_bald hC (pc := 12) (v := 0) 0 dX12_getByte_12 rfl (zvi rfl) rfl ?_
  refine z_sipush hC (pc := 13) (v := 255) dX12_getByte_13 (by decide) ?_
  refine z_iand hC (pc := 16) (v := 0) dX12_getByte_16 (by decide) ?_
  refine z_goto hC (pc := 17) 21 dX12_getByte_17 (by decide) ?_
  exact hR _ _ _ _ _ _ dX12_getByte_21 rfl (Nat.le_of_ble_eq_true rfl) (Nat.le_of_ble_eq_true rfl) ⟨rfl, rfl⟩
set_option maxRecDepth 100000 in
theorem kX12_setByte_117 (l : Launch) (G : zG) (h0 : Nat) : zMv l G yX12_setByte cX12_setByte 3 0 0 0 0 [.ref h0, .int 19, .int 0] [(h0, .inl (G.2.1 1, 4000, .inl (upd (upd (upd (upd (upd (upd (upd (upd (upd (upd (upd (upd (upd (upd (upd (upd (upd (upd (upd (fun _ => 0) 0 0) 1 0) 2 0) 3 0) 4 0) 5 0) 6 0) 7 0) 8 0) 9 0) 10 0) 11 0) 12 0) 13 0) 14 0) 15 0) 16 0) 17 0) 18 0)))] (fun w => w = [(h0, .inl (G.2.1 1, 4000, .inl (upd (upd (upd (upd (upd (upd (upd (upd (upd (upd (upd (upd (upd (upd (upd (upd (upd (upd (upd (upd (fun _ => 0) 0 0) 1 0) 2 0) 3 0) 4 0) 5 0) 6 0) 7 0) 8 0) 9 0) 10 0) 11 0) 12 0) 13 0) 14 0) 15 0) 16 0) 17 0) 18 0) 19 0)))]) := by
  refine zMv.intro (by decide) (Nat.le_of_ble_eq_true rfl) (fun X hC hR => ?_)
  refine z_iload_n hC (pc := 0) 1 dX12_setByte_0 rfl rfl ?_
  refine z_if_ltF hC (pc := 1) 15 dX12_setByte_1 (by decide) (by decide) ?_
  refine z_iload_n hC (pc := 4) 1 dX12_setByte_4 rfl rfl ?_
  refine z_aload_n hC (pc := 5) 0 dX12_setByte_5 rfl rfl ?_
  refine z_alen1 hC (pc := 6) (v := 4000) 0 dX12_setByte_6 rfl rfl ?_
  refine z_icmp_geF hC (pc := 7) 15 dX12_setByte_7 (by decide) (by decide) ?_
  refine z_aload_n hC (pc := 10) 0 dX12_setByte_10 rfl rfl ?_
  refine z_iload_n hC (pc := 11) 1 dX12_setByte_11 rfl rfl ?_
  refine z_iload_n hC (pc := 12) 2 dX12_setByte_12 rfl rfl ?_
  refine z_i2b hC (pc := 13) (v := 0) dX12_setByte_13 (by decide) ?_
  refine z_bast hC (pc := 14) (f' := (upd (upd (upd (upd (upd (upd (upd (upd (upd (upd (upd (upd (upd (upd (upd (upd (upd (upd (upd (upd (fun _ => 0) 0 0) 1 0) 2 0) 3 0) 4 0) 5 0) 6 0) 7 0) 8 0) 9 0) 10 0) 11 0) 12 0) 13 0) 14 0) 15 0) 16 0) 17 0) 18 0) 19 0)) 0 [(h0, .inl (G.2.1 1, 4000, .inl (upd (upd (upd (upd (upd (upd (upd (upd (upd (upd (upd (upd (upd (upd (upd (upd (upd (upd (upd (upd (fun _ => 0) 0 0) 1 0) 2 0) 3 0) 4 0) 5 0) 6 0) 7 0) 8 0) 9 0) 10 0) 11 0) 12 0) 13 0) 14 0) 15 0) 16 0) 17 0) 18 0) 19 0)))] dX12_setByte_14 rfl (zvi rfl) rfl rfl ?_
  exact hR _ _ _ _ _ dX12_setByte_15 (Nat.le_of_ble_eq_true rfl) (Nat.le_of_ble_eq_true rfl) rfl
set_option maxRecDepth 100000 in
theorem pend2_c (l : Launch) (G : zG) (h0 : Nat) (h1 : Nat) (h2 : Nat) (x3 : Int32) (g4 : Nat) (g5 : Nat) (g6 : Nat) (g7 : Nat) (g8 : Nat) (g9 : Nat) (g10 : Nat) (g11 : Nat) (g12 : Nat) (hy1 : ¬ x3 < 0) (hy2 : ¬ 20 < x3) : zMi l G yX12_end cX12_end 3 .int 1 23 0 0 [.ref h0, .int x3] [(h0, .inr (12, [.ref h1, .ref h2, .int 0, .ref g4, .ref g5, .ref g6, .ref g7, .ref g8, .ref g9, .ref g10, .ref g11, .ref g12, .int 0, .int 0, .int (-1), .int (-1), .int 0, .int 0, .int 0])), (h1, .inl (G.2.1 1, 20, .inl (fun _ => 0))), (h2, .inl (G.2.1 1, 4000, .inl (fun _ => 0)))] (fun r w => r = x3) := by
  refine zMi.intro (by decide) (Nat.le_of_ble_eq_true rfl) (fun X hC hR => ?_)
  refine z_iload_n hC (pc := 0) 1 dX12_end_0 rfl rfl ?_
  refine z_if_ltF hC (pc := 1) 22 dX12_end_1 (by decide) hy1 ?_
  refine z_iload_n hC (pc := 4) 1 dX12_end_4 rfl rfl ?_
  refine z_bipush hC (pc := 5) (v := 20) dX12_end_5 (by decide) ?_
  refine z_icmp_gtF hC (pc := 7) 22 dX12_end_7 (by decide) hy2 ?_
  refine z_aload_n hC (pc := 10) 0 dX12_end_10 rfl rfl ?_
  refine z_get hC (pc := 11) zf12 0 2 dX12_end_11 zw710 rfl rfl (kk := ?_)
  refine z_iload_n hC (pc := 14) 1 dX12_end_14 rfl rfl ?_
  refine z_iadd hC (pc := 15) (v := x3) dX12_end_15 (Int32.zero_add _) ?_
  refine z_sipush hC (pc := 16) (v := 4000) dX12_end_16 (by decide) ?_
  refine z_icmp_leT hC (pc := 19) 24 dX12_end_19 (by decide) (by simp only [Int32.lt_iff_toInt_lt, Int32.le_iff_toInt_le, ← Int32.toInt_inj, Int32.reduceToInt, Int32.zero_add] at hy1 hy2 ⊢; omega) ?_
  refine z_iconst hC (pc := 24) (v := 0) dX12_end_24 (by decide) ?_
  refine z_istore_n hC (pc := 25) (lv' := [(2, .int 0), (0, .ref h0), (1, .int x3)]) dX12_end_25 rfl (by decide) rfl ?_
  refine z_iload_n hC (pc := 26) 0 dX12_end_26 rfl rfl ?_
  refine z_iload_n hC (pc := 27) 2 dX12_end_27 rfl rfl ?_
  refine z_icmp_ge hC (pc := 28) 58 dX12_end_28 (by decide) (fun c1 => ?_) (fun c1 => ?_)
  · refine z_aload_n hC (pc := 58) 1 dX12_end_58 rfl rfl ?_
    refine z_dup hC (pc := 59) dX12_end_59 rfl ?_
    refine z_get hC (pc := 60) zf12 0 2 dX12_end_60 zw710 rfl rfl (kk := ?_)
    refine z_iload_n hC (pc := 63) 2 dX12_end_63 rfl rfl ?_
    refine z_iadd hC (pc := 64) (v := x3) dX12_end_64 (Int32.zero_add _) ?_
    refine z_put hC (pc := 65) zf12 0 2 [(h0, .inr (12, [.ref h1, .ref h2, .int x3, .ref g4, .ref g5, .ref g6, .ref g7, .ref g8, .ref g9, .ref g10, .ref g11, .ref g12, .int 0, .int 0, .int (-1), .int (-1), .int 0, .int 0, .int 0])), (h1, .inl (G.2.1 1, 20, .inl (fun _ => 0))), (h2, .inl (G.2.1 1, 4000, .inl (fun _ => 0)))] dX12_end_65 zw710 rfl rfl rfl rfl rfl (kk := ?_)
    refine z_aload_n hC (pc := 68) 1 dX12_end_68 rfl rfl ?_
    refine z_get hC (pc := 69) zf12 0 0 dX12_end_69 zw708 rfl rfl (kk := ?_)
    refine z_iconst hC (pc := 72) (v := 0) dX12_end_72 (by decide) ?_
    refine z_callSv hC (pc := 73) (k := 0) (n := 0) (As := [.ref h1, .int 0]) (wr := [(h0, .inr (12, [.ref h1, .ref h2, .int x3, .ref g4, .ref g5, .ref g6, .ref g7, .ref g8, .ref g9, .ref g10, .ref g11, .ref g12, .int 0, .int 0, .int (-1), .int (-1), .int 0, .int 0, .int 0])), (h2, .inl (G.2.1 1, 4000, .inl (fun _ => 0)))]) (kfill_b l G h1 20 (fun _ => 0) 0 (by decide)) dmJ7_fill_031fb [1] [0, 2] rfl rfl rfl dX12_end_73 zw784 rfl rfl (Nat.le_of_ble_eq_true rfl) (Nat.le_of_ble_eq_true rfl) (Nat.le_of_ble_eq_true rfl) (Nat.le_of_ble_eq_true rfl) (Nat.le_of_ble_eq_true rfl) (fun w hp => ?_)
    obtain rfl := hp
    refine z_aload_n hC (pc := 76) 1 dX12_end_76 rfl rfl ?_
    refine z_get hC (pc := 77) zf12 0 2 dX12_end_77 zw710 rfl rfl (kk := ?_)
    exact hR _ _ _ _ _ _ dX12_end_80 rfl (Nat.le_of_ble_eq_true rfl) (Nat.le_of_ble_eq_true rfl) rfl
  · refine z_aload_n hC (pc := 31) 1 dX12_end_31 rfl rfl ?_
    refine z_get hC (pc := 32) zf12 0 1 dX12_end_32 zw709 rfl rfl (kk := ?_)
    refine z_aload_n hC (pc := 35) 1 dX12_end_35 rfl rfl ?_
    refine z_get hC (pc := 36) zf12 0 2 dX12_end_36 zw710 rfl rfl (kk := ?_)
    refine z_iload_n hC (pc := 39) 0 dX12_end_39 rfl rfl ?_
    refine z_iadd hC (pc := 40) (v := 0) dX12_end_40 (by decide) ?_
    refine z_aload_n hC (pc := 41) 1 dX12_end_41 rfl rfl ?_
    refine z_get hC (pc := 42) zf12 0 0 dX12_end_42 zw708 rfl rfl (kk := ?_)
    refine z_iload_n hC (pc := 45) 0 dX12_end_45 rfl rfl ?_
    refine z_callSi hC (pc := 46) (k := 0) (n := 0) (As := [.ref h1, .int 0]) (wr := [(h0, .inr (12, [.ref h1, .ref h2, .int 0, .ref g4, .ref g5, .ref g6, .ref g7, .ref g8, .ref g9, .ref g10, .ref g11, .ref g12, .int 0, .int 0, .int (-1), .int (-1), .int 0, .int 0, .int 0])), (h2, .inl (G.2.1 1, 4000, .inl (fun _ => 0)))]) (kX12_getByte_78 l G h1) dmX12_getByte [1] [0, 2] rfl rfl rfl dX12_end_46 zw781 rfl rfl (Nat.le_of_ble_eq_true rfl) (Nat.le_of_ble_eq_true rfl) (Nat.le_of_ble_eq_true rfl) (Nat.le_of_ble_eq_true rfl) (Nat.le_of_ble_eq_true rfl) (fun r w hp => ?_)
    obtain ⟨rfl, rfl⟩ := hp
    refine z_callSv hC (pc := 49) (k := 0) (n := 0) (As := [.ref h2, .int 0, .int 0]) (wr := [(h0, .inr (12, [.ref h1, .ref h2, .int 0, .ref g4, .ref g5, .ref g6, .ref g7, .ref g8, .ref g9, .ref g10, .ref g11, .ref g12, .int 0, .int 0, .int (-1), .int (-1), .int 0, .int 0, .int 0])), (h1, .inl (G.2.1 1, 20, .inl (fun _ => 0)))]) (kX12_setByte_79 l G h2) dmX12_setByte [1] [0, 2] rfl rfl rfl dX12_end_49 zw774 rfl rfl (Nat.le_of_ble_eq_true rfl) (Nat.le_of_ble_eq_true rfl) (Nat.le_of_ble_eq_true rfl) (Nat.le_of_ble_eq_true rfl) (Nat.le_of_ble_eq_true rfl) (fun w hp => ?_)
    obtain rfl := hp
    refine z_iinc hC (pc := 52) (v := 1) (lv' := [(2, .int 1), (0, .ref h0), (1, .int x3)]) 0 dX12_end_52 rfl (by decide) (by decide) rfl ?_
    refine z_goto hC (pc := 55) 26 dX12_end_55 (by decide) ?_
    refine z_iload_n hC (pc := 26) 0 dX12_end_26 rfl rfl ?_
    refine z_iload_n hC (pc := 27) 2 dX12_end_27 rfl rfl ?_
    refine z_icmp_ge hC (pc := 28) 58 dX12_end_28 (by decide) (fun c2 => ?_) (fun c2 => ?_)
    · refine z_aload_n hC (pc := 58) 1 dX12_end_58 rfl rfl ?_
      refine z_dup hC (pc := 59) dX12_end_59 rfl ?_
      refine z_get hC (pc := 60) zf12 0 2 dX12_end_60 zw710 rfl rfl (kk := ?_)
      refine z_iload_n hC (pc := 63) 2 dX12_end_63 rfl rfl ?_
      refine z_iadd hC (pc := 64) (v := x3) dX12_end_64 (Int32.zero_add _) ?_
      refine z_put hC (pc := 65) zf12 0 2 [(h0, .inr (12, [.ref h1, .ref h2, .int x3, .ref g4, .ref g5, .ref g6, .ref g7, .ref g8, .ref g9, .ref g10, .ref g11, .ref g12, .int 0, .int 0, .int (-1), .int (-1), .int 0, .int 0, .int 0])), (h1, .inl (G.2.1 1, 20, .inl (fun _ => 0))), (h2, .inl (G.2.1 1, 4000, .inl (upd (fun _ => 0) 0 0)))] dX12_end_65 zw710 rfl rfl rfl rfl rfl (kk := ?_)
      refine z_aload_n hC (pc := 68) 1 dX12_end_68 rfl rfl ?_
      refine z_get hC (pc := 69) zf12 0 0 dX12_end_69 zw708 rfl rfl (kk := ?_)
      refine z_iconst hC (pc := 72) (v := 0) dX12_end_72 (by decide) ?_
      refine z_callSv hC (pc := 73) (k := 0) (n := 0) (As := [.ref h1, .int 0]) (wr := [(h0, .inr (12, [.ref h1, .ref h2, .int x3, .ref g4, .ref g5, .ref g6, .ref g7, .ref g8, .ref g9, .ref g10, .ref g11, .ref g12, .int 0, .int 0, .int (-1), .int (-1), .int 0, .int 0, .int 0])), (h2, .inl (G.2.1 1, 4000, .inl (upd (fun _ => 0) 0 0)))]) (kfill_b l G h1 20 (fun _ => 0) 0 (by decide)) dmJ7_fill_031fb [1] [0, 2] rfl rfl rfl dX12_end_73 zw784 rfl rfl (Nat.le_of_ble_eq_true rfl) (Nat.le_of_ble_eq_true rfl) (Nat.le_of_ble_eq_true rfl) (Nat.le_of_ble_eq_true rfl) (Nat.le_of_ble_eq_true rfl) (fun w hp => ?_)
      obtain rfl := hp
      refine z_aload_n hC (pc := 76) 1 dX12_end_76 rfl rfl ?_
      refine z_get hC (pc := 77) zf12 0 2 dX12_end_77 zw710 rfl rfl (kk := ?_)
      exact hR _ _ _ _ _ _ dX12_end_80 rfl (Nat.le_of_ble_eq_true rfl) (Nat.le_of_ble_eq_true rfl) rfl
    · refine z_aload_n hC (pc := 31) 1 dX12_end_31 rfl rfl ?_
      refine z_get hC (pc := 32) zf12 0 1 dX12_end_32 zw709 rfl rfl (kk := ?_)
      refine z_aload_n hC (pc := 35) 1 dX12_end_35 rfl rfl ?_
      refine z_get hC (pc := 36) zf12 0 2 dX12_end_36 zw710 rfl rfl (kk := ?_)
      refine z_iload_n hC (pc := 39) 0 dX12_end_39 rfl rfl ?_
      refine z_iadd hC (pc := 40) (v := 1) dX12_end_40 (by decide) ?_
      refine z_aload_n hC (pc := 41) 1 dX12_end_41 rfl rfl ?_
      refine z_get hC (pc := 42) zf12 0 0 dX12_end_42 zw708 rfl rfl (kk := ?_)
      refine z_iload_n hC (pc := 45) 0 dX12_end_45 rfl rfl ?_
      refine z_callSi hC (pc := 46) (k := 0) (n := 0) (As := [.ref h1, .int 1]) (wr := [(h0, .inr (12, [.ref h1, .ref h2, .int 0, .ref g4, .ref g5, .ref g6, .ref g7, .ref g8, .ref g9, .ref g10, .ref g11, .ref g12, .int 0, .int 0, .int (-1), .int (-1), .int 0, .int 0, .int 0])), (h2, .inl (G.2.1 1, 4000, .inl (upd (fun _ => 0) 0 0)))]) (kX12_getByte_80 l G h1) dmX12_getByte [1] [0, 2] rfl rfl rfl dX12_end_46 zw781 rfl rfl (Nat.le_of_ble_eq_true rfl) (Nat.le_of_ble_eq_true rfl) (Nat.le_of_ble_eq_true rfl) (Nat.le_of_ble_eq_true rfl) (Nat.le_of_ble_eq_true rfl) (fun r w hp => ?_)
      obtain ⟨rfl, rfl⟩ := hp
      refine z_callSv hC (pc := 49) (k := 0) (n := 0) (As := [.ref h2, .int 1, .int 0]) (wr := [(h0, .inr (12, [.ref h1, .ref h2, .int 0, .ref g4, .ref g5, .ref g6, .ref g7, .ref g8, .ref g9, .ref g10, .ref g11, .ref g12, .int 0, .int 0, .int (-1), .int (-1), .int 0, .int 0, .int 0])), (h1, .inl (G.2.1 1, 20, .inl (fun _ => 0)))]) (kX12_setByte_81 l G h2) dmX12_setByte [1] [0, 2] rfl rfl rfl dX12_end_49 zw774 rfl rfl (Nat.le_of_ble_eq_true rfl) (Nat.le_of_ble_eq_true rfl) (Nat.le_of_ble_eq_true rfl) (Nat.le_of_ble_eq_true rfl) (Nat.le_of_ble_eq_true rfl) (fun w hp => ?_)
      obtain rfl := hp
      refine z_iinc hC (pc := 52) (v := 2) (lv' := [(2, .int 2), (0, .ref h0), (1, .int x3)]) 0 dX12_end_52 rfl (by decide) (by decide) rfl ?_
      refine z_goto hC (pc := 55) 26 dX12_end_55 (by decide) ?_
      refine z_iload_n hC (pc := 26) 0 dX12_end_26 rfl rfl ?_
      refine z_iload_n hC (pc := 27) 2 dX12_end_27 rfl rfl ?_
      refine z_icmp_ge hC (pc := 28) 58 dX12_end_28 (by decide) (fun c3 => ?_) (fun c3 => ?_)
      · refine z_aload_n hC (pc := 58) 1 dX12_end_58 rfl rfl ?_
        refine z_dup hC (pc := 59) dX12_end_59 rfl ?_
        refine z_get hC (pc := 60) zf12 0 2 dX12_end_60 zw710 rfl rfl (kk := ?_)
        refine z_iload_n hC (pc := 63) 2 dX12_end_63 rfl rfl ?_
        refine z_iadd hC (pc := 64) (v := x3) dX12_end_64 (Int32.zero_add _) ?_
        refine z_put hC (pc := 65) zf12 0 2 [(h0, .inr (12, [.ref h1, .ref h2, .int x3, .ref g4, .ref g5, .ref g6, .ref g7, .ref g8, .ref g9, .ref g10, .ref g11, .ref g12, .int 0, .int 0, .int (-1), .int (-1), .int 0, .int 0, .int 0])), (h1, .inl (G.2.1 1, 20, .inl (fun _ => 0))), (h2, .inl (G.2.1 1, 4000, .inl (upd (upd (fun _ => 0) 0 0) 1 0)))] dX12_end_65 zw710 rfl rfl rfl rfl rfl (kk := ?_)
        refine z_aload_n hC (pc := 68) 1 dX12_end_68 rfl rfl ?_
        refine z_get hC (pc := 69) zf12 0 0 dX12_end_69 zw708 rfl rfl (kk := ?_)
        refine z_iconst hC (pc := 72) (v := 0) dX12_end_72 (by decide) ?_
        refine z_callSv hC (pc := 73) (k := 0) (n := 0) (As := [.ref h1, .int 0]) (wr := [(h0, .inr (12, [.ref h1, .ref h2, .int x3, .ref g4, .ref g5, .ref g6, .ref g7, .ref g8, .ref g9, .ref g10, .ref g11, .ref g12, .int 0, .int 0, .int (-1), .int (-1), .int 0, .int 0, .int 0])), (h2, .inl (G.2.1 1, 4000, .inl (upd (upd (fun _ => 0) 0 0) 1 0)))]) (kfill_b l G h1 20 (fun _ => 0) 0 (by decide)) dmJ7_fill_031fb [1] [0, 2] rfl rfl rfl dX12_end_73 zw784 rfl rfl (Nat.le_of_ble_eq_true rfl) (Nat.le_of_ble_eq_true rfl) (Nat.le_of_ble_eq_true rfl) (Nat.le_of_ble_eq_true rfl) (Nat.le_of_ble_eq_true rfl) (fun w hp => ?_)
        obtain rfl := hp
        refine z_aload_n hC (pc := 76) 1 dX12_end_76 rfl rfl ?_
        refine z_get hC (pc := 77) zf12 0 2 dX12_end_77 zw710 rfl rfl (kk := ?_)
        exact hR _ _ _ _ _ _ dX12_end_80 rfl (Nat.le_of_ble_eq_true rfl) (Nat.le_of_ble_eq_true rfl) rfl
      · refine z_aload_n hC (pc := 31) 1 dX12_end_31 rfl rfl ?_
        refine z_get hC (pc := 32) zf12 0 1 dX12_end_32 zw709 rfl rfl (kk := ?_)
        refine z_aload_n hC (pc := 35) 1 dX12_end_35 rfl rfl ?_
        refine z_get hC (pc := 36) zf12 0 2 dX12_end_36 zw710 rfl rfl (kk := ?_)
        refine z_iload_n hC (pc := 39) 0 dX12_end_39 rfl rfl ?_
        refine z_iadd hC (pc := 40) (v := 2) dX12_end_40 (by decide) ?_
        refine z_aload_n hC (pc := 41) 1 dX12_end_41 rfl rfl ?_
        refine z_get hC (pc := 42) zf12 0 0 dX12_end_42 zw708 rfl rfl (kk := ?_)
        refine z_iload_n hC (pc := 45) 0 dX12_end_45 rfl rfl ?_
        refine z_callSi hC (pc := 46) (k := 0) (n := 0) (As := [.ref h1, .int 2]) (wr := [(h0, .inr (12, [.ref h1, .ref h2, .int 0, .ref g4, .ref g5, .ref g6, .ref g7, .ref g8, .ref g9, .ref g10, .ref g11, .ref g12, .int 0, .int 0, .int (-1), .int (-1), .int 0, .int 0, .int 0])), (h2, .inl (G.2.1 1, 4000, .inl (upd (upd (fun _ => 0) 0 0) 1 0)))]) (kX12_getByte_82 l G h1) dmX12_getByte [1] [0, 2] rfl rfl rfl dX12_end_46 zw781 rfl rfl (Nat.le_of_ble_eq_true rfl) (Nat.le_of_ble_eq_true rfl) (Nat.le_of_ble_eq_true rfl) (Nat.le_of_ble_eq_true rfl) (Nat.le_of_ble_eq_true rfl) (fun r w hp => ?_)
        obtain ⟨rfl, rfl⟩ := hp
        refine z_callSv hC (pc := 49) (k := 0) (n := 0) (As := [.ref h2, .int 2, .int 0]) (wr := [(h0, .inr (12, [.ref h1, .ref h2, .int 0, .ref g4, .ref g5, .ref g6, .ref g7, .ref g8, .ref g9, .ref g10, .ref g11, .ref g12, .int 0, .int 0, .int (-1), .int (-1), .int 0, .int 0, .int 0])), (h1, .inl (G.2.1 1, 20, .inl (fun _ => 0)))]) (kX12_setByte_83 l G h2) dmX12_setByte [1] [0, 2] rfl rfl rfl dX12_end_49 zw774 rfl rfl (Nat.le_of_ble_eq_true rfl) (Nat.le_of_ble_eq_true rfl) (Nat.le_of_ble_eq_true rfl) (Nat.le_of_ble_eq_true rfl) (Nat.le_of_ble_eq_true rfl) (fun w hp => ?_)
        obtain rfl := hp
        refine z_iinc hC (pc := 52) (v := 3) (lv' := [(2, .int 3), (0, .ref h0), (1, .int x3)]) 0 dX12_end_52 rfl (by decide) (by decide) rfl ?_
        refine z_goto hC (pc := 55) 26 dX12_end_55 (by decide) ?_
        refine z_iload_n hC (pc := 26) 0 dX12_end_26 rfl rfl ?_
        refine z_iload_n hC (pc := 27) 2 dX12_end_27 rfl rfl ?_
        refine z_icmp_ge hC (pc := 28) 58 dX12_end_28 (by decide) (fun c4 => ?_) (fun c4 => ?_)
        · refine z_aload_n hC (pc := 58) 1 dX12_end_58 rfl rfl ?_
          refine z_dup hC (pc := 59) dX12_end_59 rfl ?_
          refine z_get hC (pc := 60) zf12 0 2 dX12_end_60 zw710 rfl rfl (kk := ?_)
          refine z_iload_n hC (pc := 63) 2 dX12_end_63 rfl rfl ?_
          refine z_iadd hC (pc := 64) (v := x3) dX12_end_64 (Int32.zero_add _) ?_
          refine z_put hC (pc := 65) zf12 0 2 [(h0, .inr (12, [.ref h1, .ref h2, .int x3, .ref g4, .ref g5, .ref g6, .ref g7, .ref g8, .ref g9, .ref g10, .ref g11, .ref g12, .int 0, .int 0, .int (-1), .int (-1), .int 0, .int 0, .int 0])), (h1, .inl (G.2.1 1, 20, .inl (fun _ => 0))), (h2, .inl (G.2.1 1, 4000, .inl (upd (upd (upd (fun _ => 0) 0 0) 1 0) 2 0)))] dX12_end_65 zw710 rfl rfl rfl rfl rfl (kk := ?_)
          refine z_aload_n hC (pc := 68) 1 dX12_end_68 rfl rfl ?_
          refine z_get hC (pc := 69) zf12 0 0 dX12_end_69 zw708 rfl rfl (kk := ?_)
          refine z_iconst hC (pc := 72) (v := 0) dX12_end_72 (by decide) ?_
          refine z_callSv hC (pc := 73) (k := 0) (n := 0) (As := [.ref h1, .int 0]) (wr := [(h0, .inr (12, [.ref h1, .ref h2, .int x3, .ref g4, .ref g5, .ref g6, .ref g7, .ref g8, .ref g9, .ref g10, .ref g11, .ref g12, .int 0, .int 0, .int (-1), .int (-1), .int 0, .int 0, .int 0])), (h2, .inl (G.2.1 1, 4000, .inl (upd (upd (upd (fun _ => 0) 0 0) 1 0) 2 0)))]) (kfill_b l G h1 20 (fun _ => 0) 0 (by decide)) dmJ7_fill_031fb [1] [0, 2] rfl rfl rfl dX12_end_73 zw784 rfl rfl (Nat.le_of_ble_eq_true rfl) (Nat.le_of_ble_eq_true rfl) (Nat.le_of_ble_eq_true rfl) (Nat.le_of_ble_eq_true rfl) (Nat.le_of_ble_eq_true rfl) (fun w hp => ?_)
          obtain rfl := hp
          refine z_aload_n hC (pc := 76) 1 dX12_end_76 rfl rfl ?_
          refine z_get hC (pc := 77) zf12 0 2 dX12_end_77 zw710 rfl rfl (kk := ?_)
          exact hR _ _ _ _ _ _ dX12_end_80 rfl (Nat.le_of_ble_eq_true rfl) (Nat.le_of_ble_eq_true rfl) rfl
        · refine z_aload_n hC (pc := 31) 1 dX12_end_31 rfl rfl ?_
          refine z_get hC (pc := 32) zf12 0 1 dX12_end_32 zw709 rfl rfl (kk := ?_)
          refine z_aload_n hC (pc := 35) 1 dX12_end_35 rfl rfl ?_
          refine z_get hC (pc := 36) zf12 0 2 dX12_end_36 zw710 rfl rfl (kk := ?_)
          refine z_iload_n hC (pc := 39) 0 dX12_end_39 rfl rfl ?_
          refine z_iadd hC (pc := 40) (v := 3) dX12_end_40 (by decide) ?_
          refine z_aload_n hC (pc := 41) 1 dX12_end_41 rfl rfl ?_
          refine z_get hC (pc := 42) zf12 0 0 dX12_end_42 zw708 rfl rfl (kk := ?_)
          refine z_iload_n hC (pc := 45) 0 dX12_end_45 rfl rfl ?_
          refine z_callSi hC (pc := 46) (k := 0) (n := 0) (As := [.ref h1, .int 3]) (wr := [(h0, .inr (12, [.ref h1, .ref h2, .int 0, .ref g4, .ref g5, .ref g6, .ref g7, .ref g8, .ref g9, .ref g10, .ref g11, .ref g12, .int 0, .int 0, .int (-1), .int (-1), .int 0, .int 0, .int 0])), (h2, .inl (G.2.1 1, 4000, .inl (upd (upd (upd (fun _ => 0) 0 0) 1 0) 2 0)))]) (kX12_getByte_84 l G h1) dmX12_getByte [1] [0, 2] rfl rfl rfl dX12_end_46 zw781 rfl rfl (Nat.le_of_ble_eq_true rfl) (Nat.le_of_ble_eq_true rfl) (Nat.le_of_ble_eq_true rfl) (Nat.le_of_ble_eq_true rfl) (Nat.le_of_ble_eq_true rfl) (fun r w hp => ?_)
          obtain ⟨rfl, rfl⟩ := hp
          refine z_callSv hC (pc := 49) (k := 0) (n := 0) (As := [.ref h2, .int 3, .int 0]) (wr := [(h0, .inr (12, [.ref h1, .ref h2, .int 0, .ref g4, .ref g5, .ref g6, .ref g7, .ref g8, .ref g9, .ref g10, .ref g11, .ref g12, .int 0, .int 0, .int (-1), .int (-1), .int 0, .int 0, .int 0])), (h1, .inl (G.2.1 1, 20, .inl (fun _ => 0)))]) (kX12_setByte_85 l G h2) dmX12_setByte [1] [0, 2] rfl rfl rfl dX12_end_49 zw774 rfl rfl (Nat.le_of_ble_eq_true rfl) (Nat.le_of_ble_eq_true rfl) (Nat.le_of_ble_eq_true rfl) (Nat.le_of_ble_eq_true rfl) (Nat.le_of_ble_eq_true rfl) (fun w hp => ?_)
          obtain rfl := hp
          refine z_iinc hC (pc := 52) (v := 4) (lv' := [(2, .int 4), (0, .ref h0), (1, .int x3)]) 0 dX12_end_52 rfl (by decide) (by decide) rfl ?_
          refine z_goto hC (pc := 55) 26 dX12_end_55 (by decide) ?_
          refine z_iload_n hC (pc := 26) 0 dX12_end_26 rfl rfl ?_
          refine z_iload_n hC (pc := 27) 2 dX12_end_27 rfl rfl ?_
          refine z_icmp_ge hC (pc := 28) 58 dX12_end_28 (by decide) (fun c5 => ?_) (fun c5 => ?_)
          · refine z_aload_n hC (pc := 58) 1 dX12_end_58 rfl rfl ?_
            refine z_dup hC (pc := 59) dX12_end_59 rfl ?_
            refine z_get hC (pc := 60) zf12 0 2 dX12_end_60 zw710 rfl rfl (kk := ?_)
            refine z_iload_n hC (pc := 63) 2 dX12_end_63 rfl rfl ?_
            refine z_iadd hC (pc := 64) (v := x3) dX12_end_64 (Int32.zero_add _) ?_
            refine z_put hC (pc := 65) zf12 0 2 [(h0, .inr (12, [.ref h1, .ref h2, .int x3, .ref g4, .ref g5, .ref g6, .ref g7, .ref g8, .ref g9, .ref g10, .ref g11, .ref g12, .int 0, .int 0, .int (-1), .int (-1), .int 0, .int 0, .int 0])), (h1, .inl (G.2.1 1, 20, .inl (fun _ => 0))), (h2, .inl (G.2.1 1, 4000, .inl (upd (upd (upd (upd (fun _ => 0) 0 0) 1 0) 2 0) 3 0)))] dX12_end_65 zw710 rfl rfl rfl rfl rfl (kk := ?_)
            refine z_aload_n hC (pc := 68) 1 dX12_end_68 rfl rfl ?_
            refine z_get hC (pc := 69) zf12 0 0 dX12_end_69 zw708 rfl rfl (kk := ?_)
            refine z_iconst hC (pc := 72) (v := 0) dX12_end_72 (by decide) ?_
            refine z_callSv hC (pc := 73) (k := 0) (n := 0) (As := [.ref h1, .int 0]) (wr := [(h0, .inr (12, [.ref h1, .ref h2, .int x3, .ref g4, .ref g5, .ref g6, .ref g7, .ref g8, .ref g9, .ref g10, .ref g11, .ref g12, .int 0, .int 0, .int (-1), .int (-1), .int 0, .int 0, .int 0])), (h2, .inl (G.2.1 1, 4000, .inl (upd (upd (upd (upd (fun _ => 0) 0 0) 1 0) 2 0) 3 0)))]) (kfill_b l G h1 20 (fun _ => 0) 0 (by decide)) dmJ7_fill_031fb [1] [0, 2] rfl rfl rfl dX12_end_73 zw784 rfl rfl (Nat.le_of_ble_eq_true rfl) (Nat.le_of_ble_eq_true rfl) (Nat.le_of_ble_eq_true rfl) (Nat.le_of_ble_eq_true rfl) (Nat.le_of_ble_eq_true rfl) (fun w hp => ?_)
            obtain rfl := hp
            refine z_aload_n hC (pc := 76) 1 dX12_end_76 rfl rfl ?_
            refine z_get hC (pc := 77) zf12 0 2 dX12_end_77 zw710 rfl rfl (kk := ?_)
            exact hR _ _ _ _ _ _ dX12_end_80 rfl (Nat.le_of_ble_eq_true rfl) (Nat.le_of_ble_eq_true rfl) rfl
          · refine z_aload_n hC (pc := 31) 1 dX12_end_31 rfl rfl ?_
            refine z_get hC (pc := 32) zf12 0 1 dX12_end_32 zw709 rfl rfl (kk := ?_)
            refine z_aload_n hC (pc := 35) 1 dX12_end_35 rfl rfl ?_
            refine z_get hC (pc := 36) zf12 0 2 dX12_end_36 zw710 rfl rfl (kk := ?_)
            refine z_iload_n hC (pc := 39) 0 dX12_end_39 rfl rfl ?_
            refine z_iadd hC (pc := 40) (v := 4) dX12_end_40 (by decide) ?_
            refine z_aload_n hC (pc := 41) 1 dX12_end_41 rfl rfl ?_
            refine z_get hC (pc := 42) zf12 0 0 dX12_end_42 zw708 rfl rfl (kk := ?_)
            refine z_iload_n hC (pc := 45) 0 dX12_end_45 rfl rfl ?_
            refine z_callSi hC (pc := 46) (k := 0) (n := 0) (As := [.ref h1, .int 4]) (wr := [(h0, .inr (12, [.ref h1, .ref h2, .int 0, .ref g4, .ref g5, .ref g6, .ref g7, .ref g8, .ref g9, .ref g10, .ref g11, .ref g12, .int 0, .int 0, .int (-1), .int (-1), .int 0, .int 0, .int 0])), (h2, .inl (G.2.1 1, 4000, .inl (upd (upd (upd (upd (fun _ => 0) 0 0) 1 0) 2 0) 3 0)))]) (kX12_getByte_86 l G h1) dmX12_getByte [1] [0, 2] rfl rfl rfl dX12_end_46 zw781 rfl rfl (Nat.le_of_ble_eq_true rfl) (Nat.le_of_ble_eq_true rfl) (Nat.le_of_ble_eq_true rfl) (Nat.le_of_ble_eq_true rfl) (Nat.le_of_ble_eq_true rfl) (fun r w hp => ?_)
            obtain ⟨rfl, rfl⟩ := hp
            refine z_callSv hC (pc := 49) (k := 0) (n := 0) (As := [.ref h2, .int 4, .int 0]) (wr := [(h0, .inr (12, [.ref h1, .ref h2, .int 0, .ref g4, .ref g5, .ref g6, .ref g7, .ref g8, .ref g9, .ref g10, .ref g11, .ref g12, .int 0, .int 0, .int (-1), .int (-1), .int 0, .int 0, .int 0])), (h1, .inl (G.2.1 1, 20, .inl (fun _ => 0)))]) (kX12_setByte_87 l G h2) dmX12_setByte [1] [0, 2] rfl rfl rfl dX12_end_49 zw774 rfl rfl (Nat.le_of_ble_eq_true rfl) (Nat.le_of_ble_eq_true rfl) (Nat.le_of_ble_eq_true rfl) (Nat.le_of_ble_eq_true rfl) (Nat.le_of_ble_eq_true rfl) (fun w hp => ?_)
            obtain rfl := hp
            refine z_iinc hC (pc := 52) (v := 5) (lv' := [(2, .int 5), (0, .ref h0), (1, .int x3)]) 0 dX12_end_52 rfl (by decide) (by decide) rfl ?_
            refine z_goto hC (pc := 55) 26 dX12_end_55 (by decide) ?_
            refine z_iload_n hC (pc := 26) 0 dX12_end_26 rfl rfl ?_
            refine z_iload_n hC (pc := 27) 2 dX12_end_27 rfl rfl ?_
            refine z_icmp_ge hC (pc := 28) 58 dX12_end_28 (by decide) (fun c6 => ?_) (fun c6 => ?_)
            · refine z_aload_n hC (pc := 58) 1 dX12_end_58 rfl rfl ?_
              refine z_dup hC (pc := 59) dX12_end_59 rfl ?_
              refine z_get hC (pc := 60) zf12 0 2 dX12_end_60 zw710 rfl rfl (kk := ?_)
              refine z_iload_n hC (pc := 63) 2 dX12_end_63 rfl rfl ?_
              refine z_iadd hC (pc := 64) (v := x3) dX12_end_64 (Int32.zero_add _) ?_
              refine z_put hC (pc := 65) zf12 0 2 [(h0, .inr (12, [.ref h1, .ref h2, .int x3, .ref g4, .ref g5, .ref g6, .ref g7, .ref g8, .ref g9, .ref g10, .ref g11, .ref g12, .int 0, .int 0, .int (-1), .int (-1), .int 0, .int 0, .int 0])), (h1, .inl (G.2.1 1, 20, .inl (fun _ => 0))), (h2, .inl (G.2.1 1, 4000, .inl (upd (upd (upd (upd (upd (fun _ => 0) 0 0) 1 0) 2 0) 3 0) 4 0)))] dX12_end_65 zw710 rfl rfl rfl rfl rfl (kk := ?_)
              refine z_aload_n hC (pc := 68) 1 dX12_end_68 rfl rfl ?_
              refine z_get hC (pc := 69) zf12 0 0 dX12_end_69 zw708 rfl rfl (kk := ?_)
              refine z_iconst hC (pc := 72) (v := 0) dX12_end_72 (by decide) ?_
              refine z_callSv hC (pc := 73) (k := 0) (n := 0) (As := [.ref h1, .int 0]) (wr := [(h0, .inr (12, [.ref h1, .ref h2, .int x3, .ref g4, .ref g5, .ref g6, .ref g7, .ref g8, .ref g9, .ref g10, .ref g11, .ref g12, .int 0, .int 0, .int (-1), .int (-1), .int 0, .int 0, .int 0])), (h2, .inl (G.2.1 1, 4000, .inl (upd (upd (upd (upd (upd (fun _ => 0) 0 0) 1 0) 2 0) 3 0) 4 0)))]) (kfill_b l G h1 20 (fun _ => 0) 0 (by decide)) dmJ7_fill_031fb [1] [0, 2] rfl rfl rfl dX12_end_73 zw784 rfl rfl (Nat.le_of_ble_eq_true rfl) (Nat.le_of_ble_eq_true rfl) (Nat.le_of_ble_eq_true rfl) (Nat.le_of_ble_eq_true rfl) (Nat.le_of_ble_eq_true rfl) (fun w hp => ?_)
              obtain rfl := hp
              refine z_aload_n hC (pc := 76) 1 dX12_end_76 rfl rfl ?_
              refine z_get hC (pc := 77) zf12 0 2 dX12_end_77 zw710 rfl rfl (kk := ?_)
              exact hR _ _ _ _ _ _ dX12_end_80 rfl (Nat.le_of_ble_eq_true rfl) (Nat.le_of_ble_eq_true rfl) rfl
            · refine z_aload_n hC (pc := 31) 1 dX12_end_31 rfl rfl ?_
              refine z_get hC (pc := 32) zf12 0 1 dX12_end_32 zw709 rfl rfl (kk := ?_)
              refine z_aload_n hC (pc := 35) 1 dX12_end_35 rfl rfl ?_
              refine z_get hC (pc := 36) zf12 0 2 dX12_end_36 zw710 rfl rfl (kk := ?_)
              refine z_iload_n hC (pc := 39) 0 dX12_end_39 rfl rfl ?_
              refine z_iadd hC (pc := 40) (v := 5) dX12_end_40 (by decide) ?_
              refine z_aload_n hC (pc := 41) 1 dX12_end_41 rfl rfl ?_
              refine z_get hC (pc := 42) zf12 0 0 dX12_end_42 zw708 rfl rfl (kk := ?_)
              refine z_iload_n hC (pc := 45) 0 dX12_end_45 rfl rfl ?_
              refine z_callSi hC (pc := 46) (k := 0) (n := 0) (As := [.ref h1, .int 5]) (wr := [(h0, .inr (12, [.ref h1, .ref h2, .int 0, .ref g4, .ref g5, .ref g6, .ref g7, .ref g8, .ref g9, .ref g10, .ref g11, .ref g12, .int 0, .int 0, .int (-1), .int (-1), .int 0, .int 0, .int 0])), (h2, .inl (G.2.1 1, 4000, .inl (upd (upd (upd (upd (upd (fun _ => 0) 0 0) 1 0) 2 0) 3 0) 4 0)))]) (kX12_getByte_88 l G h1) dmX12_getByte [1] [0, 2] rfl rfl rfl dX12_end_46 zw781 rfl rfl (Nat.le_of_ble_eq_true rfl) (Nat.le_of_ble_eq_true rfl) (Nat.le_of_ble_eq_true rfl) (Nat.le_of_ble_eq_true rfl) (Nat.le_of_ble_eq_true rfl) (fun r w hp => ?_)
              obtain ⟨rfl, rfl⟩ := hp
              refine z_callSv hC (pc := 49) (k := 0) (n := 0) (As := [.ref h2, .int 5, .int 0]) (wr := [(h0, .inr (12, [.ref h1, .ref h2, .int 0, .ref g4, .ref g5, .ref g6, .ref g7, .ref g8, .ref g9, .ref g10, .ref g11, .ref g12, .int 0, .int 0, .int (-1), .int (-1), .int 0, .int 0, .int 0])), (h1, .inl (G.2.1 1, 20, .inl (fun _ => 0)))]) (kX12_setByte_89 l G h2) dmX12_setByte [1] [0, 2] rfl rfl rfl dX12_end_49 zw774 rfl rfl (Nat.le_of_ble_eq_true rfl) (Nat.le_of_ble_eq_true rfl) (Nat.le_of_ble_eq_true rfl) (Nat.le_of_ble_eq_true rfl) (Nat.le_of_ble_eq_true rfl) (fun w hp => ?_)
              obtain rfl := hp
              refine z_iinc hC (pc := 52) (v := 6) (lv' := [(2, .int 6), (0, .ref h0), (1, .int x3)]) 0 dX12_end_52 rfl (by decide) (by decide) rfl ?_
              refine z_goto hC (pc := 55) 26 dX12_end_55 (by decide) ?_
              refine z_iload_n hC (pc := 26) 0 dX12_end_26 rfl rfl ?_
              refine z_iload_n hC (pc := 27) 2 dX12_end_27 rfl rfl ?_
              refine z_icmp_ge hC (pc := 28) 58 dX12_end_28 (by decide) (fun c7 => ?_) (fun c7 => ?_)
              · refine z_aload_n hC (pc := 58) 1 dX12_end_58 rfl rfl ?_
                refine z_dup hC (pc := 59) dX12_end_59 rfl ?_
                refine z_get hC (pc := 60) zf12 0 2 dX12_end_60 zw710 rfl rfl (kk := ?_)
                refine z_iload_n hC (pc := 63) 2 dX12_end_63 rfl rfl ?_
                refine z_iadd hC (pc := 64) (v := x3) dX12_end_64 (Int32.zero_add _) ?_
                refine z_put hC (pc := 65) zf12 0 2 [(h0, .inr (12, [.ref h1, .ref h2, .int x3, .ref g4, .ref g5, .ref g6, .ref g7, .ref g8, .ref g9, .ref g10, .ref g11, .ref g12, .int 0, .int 0, .int (-1), .int (-1), .int 0, .int 0, .int 0])), (h1, .inl (G.2.1 1, 20, .inl (fun _ => 0))), (h2, .inl (G.2.1 1, 4000, .inl (upd (upd (upd (upd (upd (upd (fun _ => 0) 0 0) 1 0) 2 0) 3 0) 4 0) 5 0)))] dX12_end_65 zw710 rfl rfl rfl rfl rfl (kk := ?_)
                refine z_aload_n hC (pc := 68) 1 dX12_end_68 rfl rfl ?_
                refine z_get hC (pc := 69) zf12 0 0 dX12_end_69 zw708 rfl rfl (kk := ?_)
                refine z_iconst hC (pc := 72) (v := 0) dX12_end_72 (by decide) ?_
                refine z_callSv hC (pc := 73) (k := 0) (n := 0) (As := [.ref h1, .int 0]) (wr := [(h0, .inr (12, [.ref h1, .ref h2, .int x3, .ref g4, .ref g5, .ref g6, .ref g7, .ref g8, .ref g9, .ref g10, .ref g11, .ref g12, .int 0, .int 0, .int (-1), .int (-1), .int 0, .int 0, .int 0])), (h2, .inl (G.2.1 1, 4000, .inl (upd (upd (upd (upd (upd (upd (fun _ => 0) 0 0) 1 0) 2 0) 3 0) 4 0) 5 0)))]) (kfill_b l G h1 20 (fun _ => 0) 0 (by decide)) dmJ7_fill_031fb [1] [0, 2] rfl rfl rfl dX12_end_73 zw784 rfl rfl (Nat.le_of_ble_eq_true rfl) (Nat.le_of_ble_eq_true rfl) (Nat.le_of_ble_eq_true rfl) (Nat.le_of_ble_eq_true rfl) (Nat.le_of_ble_eq_true rfl) (fun w hp => ?_)
                obtain rfl := hp
                refine z_aload_n hC (pc := 76) 1 dX12_end_76 rfl rfl ?_
                refine z_get hC (pc := 77) zf12 0 2 dX12_end_77 zw710 rfl rfl (kk := ?_)
                exact hR _ _ _ _ _ _ dX12_end_80 rfl (Nat.le_of_ble_eq_true rfl) (Nat.le_of_ble_eq_true rfl) rfl
              · refine z_aload_n hC (pc := 31) 1 dX12_end_31 rfl rfl ?_
                refine z_get hC (pc := 32) zf12 0 1 dX12_end_32 zw709 rfl rfl (kk := ?_)
                refine z_aload_n hC (pc := 35) 1 dX12_end_35 rfl rfl ?_
                refine z_get hC (pc := 36) zf12 0 2 dX12_end_36 zw710 rfl rfl (kk := ?_)
                refine z_iload_n hC (pc := 39) 0 dX12_end_39 rfl rfl ?_
                refine z_iadd hC (pc := 40) (v := 6) dX12_end_40 (by decide) ?_
                refine z_aload_n hC (pc := 41) 1 dX12_end_41 rfl rfl ?_
                refine z_get hC (pc := 42) zf12 0 0 dX12_end_42 zw708 rfl rfl (kk := ?_)
                refine z_iload_n hC (pc := 45) 0 dX12_end_45 rfl rfl ?_
                refine z_callSi hC (pc := 46) (k := 0) (n := 0) (As := [.ref h1, .int 6]) (wr := [(h0, .inr (12, [.ref h1, .ref h2, .int 0, .ref g4, .ref g5, .ref g6, .ref g7, .ref g8, .ref g9, .ref g10, .ref g11, .ref g12, .int 0, .int 0, .int (-1), .int (-1), .int 0, .int 0, .int 0])), (h2, .inl (G.2.1 1, 4000, .inl (upd (upd (upd (upd (upd (upd (fun _ => 0) 0 0) 1 0) 2 0) 3 0) 4 0) 5 0)))]) (kX12_getByte_90 l G h1) dmX12_getByte [1] [0, 2] rfl rfl rfl dX12_end_46 zw781 rfl rfl (Nat.le_of_ble_eq_true rfl) (Nat.le_of_ble_eq_true rfl) (Nat.le_of_ble_eq_true rfl) (Nat.le_of_ble_eq_true rfl) (Nat.le_of_ble_eq_true rfl) (fun r w hp => ?_)
                obtain ⟨rfl, rfl⟩ := hp
                refine z_callSv hC (pc := 49) (k := 0) (n := 0) (As := [.ref h2, .int 6, .int 0]) (wr := [(h0, .inr (12, [.ref h1, .ref h2, .int 0, .ref g4, .ref g5, .ref g6, .ref g7, .ref g8, .ref g9, .ref g10, .ref g11, .ref g12, .int 0, .int 0, .int (-1), .int (-1), .int 0, .int 0, .int 0])), (h1, .inl (G.2.1 1, 20, .inl (fun _ => 0)))]) (kX12_setByte_91 l G h2) dmX12_setByte [1] [0, 2] rfl rfl rfl dX12_end_49 zw774 rfl rfl (Nat.le_of_ble_eq_true rfl) (Nat.le_of_ble_eq_true rfl) (Nat.le_of_ble_eq_true rfl) (Nat.le_of_ble_eq_true rfl) (Nat.le_of_ble_eq_true rfl) (fun w hp => ?_)
                obtain rfl := hp
                refine z_iinc hC (pc := 52) (v := 7) (lv' := [(2, .int 7), (0, .ref h0), (1, .int x3)]) 0 dX12_end_52 rfl (by decide) (by decide) rfl ?_
                refine z_goto hC (pc := 55) 26 dX12_end_55 (by decide) ?_
                refine z_iload_n hC (pc := 26) 0 dX12_end_26 rfl rfl ?_
                refine z_iload_n hC (pc := 27) 2 dX12_end_27 rfl rfl ?_
                refine z_icmp_ge hC (pc := 28) 58 dX12_end_28 (by decide) (fun c8 => ?_) (fun c8 => ?_)
                · refine z_aload_n hC (pc := 58) 1 dX12_end_58 rfl rfl ?_
                  refine z_dup hC (pc := 59) dX12_end_59 rfl ?_
                  refine z_get hC (pc := 60) zf12 0 2 dX12_end_60 zw710 rfl rfl (kk := ?_)
                  refine z_iload_n hC (pc := 63) 2 dX12_end_63 rfl rfl ?_
                  refine z_iadd hC (pc := 64) (v := x3) dX12_end_64 (Int32.zero_add _) ?_
                  refine z_put hC (pc := 65) zf12 0 2 [(h0, .inr (12, [.ref h1, .ref h2, .int x3, .ref g4, .ref g5, .ref g6, .ref g7, .ref g8, .ref g9, .ref g10, .ref g11, .ref g12, .int 0, .int 0, .int (-1), .int (-1), .int 0, .int 0, .int 0])), (h1, .inl (G.2.1 1, 20, .inl (fun _ => 0))), (h2, .inl (G.2.1 1, 4000, .inl (upd (upd (upd (upd (upd (upd (upd (fun _ => 0) 0 0) 1 0) 2 0) 3 0) 4 0) 5 0) 6 0)))] dX12_end_65 zw710 rfl rfl rfl rfl rfl (kk := ?_)
                  refine z_aload_n hC (pc := 68) 1 dX12_end_68 rfl rfl ?_
                  refine z_get hC (pc := 69) zf12 0 0 dX12_end_69 zw708 rfl rfl (kk := ?_)
                  refine z_iconst hC (pc := 72) (v := 0) dX12_end_72 (by decide) ?_
                  refine z_callSv hC (pc := 73) (k := 0) (n := 0) (As := [.ref h1, .int 0]) (wr := [(h0, .inr (12, [.ref h1, .ref h2, .int x3, .ref g4, .ref g5, .ref g6, .ref g7, .ref g8, .ref g9, .ref g10, .ref g11, .ref g12, .int 0, .int 0, .int (-1), .int (-1), .int 0, .int 0, .int 0])), (h2, .inl (G.2.1 1, 4000, .inl (upd (upd (upd (upd (upd (upd (upd (fun _ => 0) 0 0) 1 0) 2 0) 3 0) 4 0) 5 0) 6 0)))]) (kfill_b l G h1 20 (fun _ => 0) 0 (by decide)) dmJ7_fill_031fb [1] [0, 2] rfl rfl rfl dX12_end_73 zw784 rfl rfl (Nat.le_of_ble_eq_true rfl) (Nat.le_of_ble_eq_true rfl) (Nat.le_of_ble_eq_true rfl) (Nat.le_of_ble_eq_true rfl) (Nat.le_of_ble_eq_true rfl) (fun w hp => ?_)
                  obtain rfl := hp
                  refine z_aload_n hC (pc := 76) 1 dX12_end_76 rfl rfl ?_
                  refine z_get hC (pc := 77) zf12 0 2 dX12_end_77 zw710 rfl rfl (kk := ?_)
                  exact hR _ _ _ _ _ _ dX12_end_80 rfl (Nat.le_of_ble_eq_true rfl) (Nat.le_of_ble_eq_true rfl) rfl
                · refine z_aload_n hC (pc := 31) 1 dX12_end_31 rfl rfl ?_
                  refine z_get hC (pc := 32) zf12 0 1 dX12_end_32 zw709 rfl rfl (kk := ?_)
                  refine z_aload_n hC (pc := 35) 1 dX12_end_35 rfl rfl ?_
                  refine z_get hC (pc := 36) zf12 0 2 dX12_end_36 zw710 rfl rfl (kk := ?_)
                  refine z_iload_n hC (pc := 39) 0 dX12_end_39 rfl rfl ?_
                  refine z_iadd hC (pc := 40) (v := 7) dX12_end_40 (by decide) ?_
                  refine z_aload_n hC (pc := 41) 1 dX12_end_41 rfl rfl ?_
                  refine z_get hC (pc := 42) zf12 0 0 dX12_end_42 zw708 rfl rfl (kk := ?_)
                  refine z_iload_n hC (pc := 45) 0 dX12_end_45 rfl rfl ?_
                  refine z_callSi hC (pc := 46) (k := 0) (n := 0) (As := [.ref h1, .int 7]) (wr := [(h0, .inr (12, [.ref h1, .ref h2, .int 0, .ref g4, .ref g5, .ref g6, .ref g7, .ref g8, .ref g9, .ref g10, .ref g11, .ref g12, .int 0, .int 0, .int (-1), .int (-1), .int 0, .int 0, .int 0])), (h2, .inl (G.2.1 1, 4000, .inl (upd (upd (upd (upd (upd (upd (upd (fun _ => 0) 0 0) 1 0) 2 0) 3 0) 4 0) 5 0) 6 0)))]) (kX12_getByte_92 l G h1) dmX12_getByte [1] [0, 2] rfl rfl rfl dX12_end_46 zw781 rfl rfl (Nat.le_of_ble_eq_true rfl) (Nat.le_of_ble_eq_true rfl) (Nat.le_of_ble_eq_true rfl) (Nat.le_of_ble_eq_true rfl) (Nat.le_of_ble_eq_true rfl) (fun r w hp => ?_)
                  obtain ⟨rfl, rfl⟩ := hp
                  refine z_callSv hC (pc := 49) (k := 0) (n := 0) (As := [.ref h2, .int 7, .int 0]) (wr := [(h0, .inr (12, [.ref h1, .ref h2, .int 0, .ref g4, .ref g5, .ref g6, .ref g7, .ref g8, .ref g9, .ref g10, .ref g11, .ref g12, .int 0, .int 0, .int (-1), .int (-1), .int 0, .int 0, .int 0])), (h1, .inl (G.2.1 1, 20, .inl (fun _ => 0)))]) (kX12_setByte_93 l G h2) dmX12_setByte [1] [0, 2] rfl rfl rfl dX12_end_49 zw774 rfl rfl (Nat.le_of_ble_eq_true rfl) (Nat.le_of_ble_eq_true rfl) (Nat.le_of_ble_eq_true rfl) (Nat.le_of_ble_eq_true rfl) (Nat.le_of_ble_eq_true rfl) (fun w hp => ?_)
                  obtain rfl := hp
                  refine z_iinc hC (pc := 52) (v := 8) (lv' := [(2, .int 8), (0, .ref h0), (1, .int x3)]) 0 dX12_end_52 rfl (by decide) (by decide) rfl ?_
                  refine z_goto hC (pc := 55) 26 dX12_end_55 (by decide) ?_
                  refine z_iload_n hC (pc := 26) 0 dX12_end_26 rfl rfl ?_
                  refine z_iload_n hC (pc := 27) 2 dX12_end_27 rfl rfl ?_
                  refine z_icmp_ge hC (pc := 28) 58 dX12_end_28 (by decide) (fun c9 => ?_) (fun c9 => ?_)
                  · refine z_aload_n hC (pc := 58) 1 dX12_end_58 rfl rfl ?_
                    refine z_dup hC (pc := 59) dX12_end_59 rfl ?_
                    refine z_get hC (pc := 60) zf12 0 2 dX12_end_60 zw710 rfl rfl (kk := ?_)
                    refine z_iload_n hC (pc := 63) 2 dX12_end_63 rfl rfl ?_
                    refine z_iadd hC (pc := 64) (v := x3) dX12_end_64 (Int32.zero_add _) ?_
                    refine z_put hC (pc := 65) zf12 0 2 [(h0, .inr (12, [.ref h1, .ref h2, .int x3, .ref g4, .ref g5, .ref g6, .ref g7, .ref g8, .ref g9, .ref g10, .ref g11, .ref g12, .int 0, .int 0, .int (-1), .int (-1), .int 0, .int 0, .int 0])), (h1, .inl (G.2.1 1, 20, .inl (fun _ => 0))), (h2, .inl (G.2.1 1, 4000, .inl (upd (upd (upd (upd (upd (upd (upd (upd (fun _ => 0) 0 0) 1 0) 2 0) 3 0) 4 0) 5 0) 6 0) 7 0)))] dX12_end_65 zw710 rfl rfl rfl rfl rfl (kk := ?_)
                    refine z_aload_n hC (pc := 68) 1 dX12_end_68 rfl rfl ?_
                    refine z_get hC (pc := 69) zf12 0 0 dX12_end_69 zw708 rfl rfl (kk := ?_)
                    refine z_iconst hC (pc := 72) (v := 0) dX12_end_72 (by decide) ?_
                    refine z_callSv hC (pc := 73) (k := 0) (n := 0) (As := [.ref h1, .int 0]) (wr := [(h0, .inr (12, [.ref h1, .ref h2, .int x3, .ref g4, .ref g5, .ref g6, .ref g7, .ref g8, .ref g9, .ref g10, .ref g11, .ref g12, .int 0, .int 0, .int (-1), .int (-1), .int 0, .int 0, .int 0])), (h2, .inl (G.2.1 1, 4000, .inl (upd (upd (upd (upd (upd (upd (upd (upd (fun _ => 0) 0 0) 1 0) 2 0) 3 0) 4 0) 5 0) 6 0) 7 0)))]) (kfill_b l G h1 20 (fun _ => 0) 0 (by decide)) dmJ7_fill_031fb [1] [0, 2] rfl rfl rfl dX12_end_73 zw784 rfl rfl (Nat.le_of_ble_eq_true rfl) (Nat.le_of_ble_eq_true rfl) (Nat.le_of_ble_eq_true rfl) (Nat.le_of_ble_eq_true rfl) (Nat.le_of_ble_eq_true rfl) (fun w hp => ?_)
                    obtain rfl := hp
                    refine z_aload_n hC (pc := 76) 1 dX12_end_76 rfl rfl ?_
                    refine z_get hC (pc := 77) zf12 0 2 dX12_end_77 zw710 rfl rfl (kk := ?_)
                    exact hR _ _ _ _ _ _ dX12_end_80 rfl (Nat.le_of_ble_eq_true rfl) (Nat.le_of_ble_eq_true rfl) rfl
                  · refine z_aload_n hC (pc := 31) 1 dX12_end_31 rfl rfl ?_
                    refine z_get hC (pc := 32) zf12 0 1 dX12_end_32 zw709 rfl rfl (kk := ?_)
                    refine z_aload_n hC (pc := 35) 1 dX12_end_35 rfl rfl ?_
                    refine z_get hC (pc := 36) zf12 0 2 dX12_end_36 zw710 rfl rfl (kk := ?_)
                    refine z_iload_n hC (pc := 39) 0 dX12_end_39 rfl rfl ?_
                    refine z_iadd hC (pc := 40) (v := 8) dX12_end_40 (by decide) ?_
                    refine z_aload_n hC (pc := 41) 1 dX12_end_41 rfl rfl ?_
                    refine z_get hC (pc := 42) zf12 0 0 dX12_end_42 zw708 rfl rfl (kk := ?_)
                    refine z_iload_n hC (pc := 45) 0 dX12_end_45 rfl rfl ?_
                    refine z_callSi hC (pc := 46) (k := 0) (n := 0) (As := [.ref h1, .int 8]) (wr := [(h0, .inr (12, [.ref h1, .ref h2, .int 0, .ref g4, .ref g5, .ref g6, .ref g7, .ref g8, .ref g9, .ref g10, .ref g11, .ref g12, .int 0, .int 0, .int (-1), .int (-1), .int 0, .int 0, .int 0])), (h2, .inl (G.2.1 1, 4000, .inl (upd (upd (upd (upd (upd (upd (upd (upd (fun _ => 0) 0 0) 1 0) 2 0) 3 0) 4 0) 5 0) 6 0) 7 0)))]) (kX12_getByte_94 l G h1) dmX12_getByte [1] [0, 2] rfl rfl rfl dX12_end_46 zw781 rfl rfl (Nat.le_of_ble_eq_true rfl) (Nat.le_of_ble_eq_true rfl) (Nat.le_of_ble_eq_true rfl) (Nat.le_of_ble_eq_true rfl) (Nat.le_of_ble_eq_true rfl) (fun r w hp => ?_)
                    obtain ⟨rfl, rfl⟩ := hp
                    refine z_callSv hC (pc := 49) (k := 0) (n := 0) (As := [.ref h2, .int 8, .int 0]) (wr := [(h0, .inr (12, [.ref h1, .ref h2, .int 0, .ref g4, .ref g5, .ref g6, .ref g7, .ref g8, .ref g9, .ref g10, .ref g11, .ref g12, .int 0, .int 0, .int (-1), .int (-1), .int 0, .int 0, .int 0])), (h1, .inl (G.2.1 1, 20, .inl (fun _ => 0)))]) (kX12_setByte_95 l G h2) dmX12_setByte [1] [0, 2] rfl rfl rfl dX12_end_49 zw774 rfl rfl (Nat.le_of_ble_eq_true rfl) (Nat.le_of_ble_eq_true rfl) (Nat.le_of_ble_eq_true rfl) (Nat.le_of_ble_eq_true rfl) (Nat.le_of_ble_eq_true rfl) (fun w hp => ?_)
                    obtain rfl := hp
                    refine z_iinc hC (pc := 52) (v := 9) (lv' := [(2, .int 9), (0, .ref h0), (1, .int x3)]) 0 dX12_end_52 rfl (by decide) (by decide) rfl ?_
                    refine z_goto hC (pc := 55) 26 dX12_end_55 (by decide) ?_
                    refine z_iload_n hC (pc := 26) 0 dX12_end_26 rfl rfl ?_
                    refine z_iload_n hC (pc := 27) 2 dX12_end_27 rfl rfl ?_
                    refine z_icmp_ge hC (pc := 28) 58 dX12_end_28 (by decide) (fun c10 => ?_) (fun c10 => ?_)
                    · refine z_aload_n hC (pc := 58) 1 dX12_end_58 rfl rfl ?_
                      refine z_dup hC (pc := 59) dX12_end_59 rfl ?_
                      refine z_get hC (pc := 60) zf12 0 2 dX12_end_60 zw710 rfl rfl (kk := ?_)
                      refine z_iload_n hC (pc := 63) 2 dX12_end_63 rfl rfl ?_
                      refine z_iadd hC (pc := 64) (v := x3) dX12_end_64 (Int32.zero_add _) ?_
                      refine z_put hC (pc := 65) zf12 0 2 [(h0, .inr (12, [.ref h1, .ref h2, .int x3, .ref g4, .ref g5, .ref g6, .ref g7, .ref g8, .ref g9, .ref g10, .ref g11, .ref g12, .int 0, .int 0, .int (-1), .int (-1), .int 0, .int 0, .int 0])), (h1, .inl (G.2.1 1, 20, .inl (fun _ => 0))), (h2, .inl (G.2.1 1, 4000, .inl (upd (upd (upd (upd (upd (upd (upd (upd (upd (fun _ => 0) 0 0) 1 0) 2 0) 3 0) 4 0) 5 0) 6 0) 7 0) 8 0)))] dX12_end_65 zw710 rfl rfl rfl rfl rfl (kk := ?_)
                      refine z_aload_n hC (pc := 68) 1 dX12_end_68 rfl rfl ?_
                      refine z_get hC (pc := 69) zf12 0 0 dX12_end_69 zw708 rfl rfl (kk := ?_)
                      refine z_iconst hC (pc := 72) (v := 0) dX12_end_72 (by decide) ?_
                      refine z_callSv hC (pc := 73) (k := 0) (n := 0) (As := [.ref h1, .int 0]) (wr := [(h0, .inr (12, [.ref h1, .ref h2, .int x3, .ref g4, .ref g5, .ref g6, .ref g7, .ref g8, .ref g9, .ref g10, .ref g11, .ref g12, .int 0, .int 0, .int (-1), .int (-1), .int 0, .int 0, .int 0])), (h2, .inl (G.2.1 1, 4000, .inl (upd (upd (upd (upd (upd (upd (upd (upd (upd (fun _ => 0) 0 0) 1 0) 2 0) 3 0) 4 0) 5 0) 6 0) 7 0) 8 0)))]) (kfill_b l G h1 20 (fun _ => 0) 0 (by decide)) dmJ7_fill_031fb [1] [0, 2] rfl rfl rfl dX12_end_73 zw784 rfl rfl (Nat.le_of_ble_eq_true rfl) (Nat.le_of_ble_eq_true rfl) (Nat.le_of_ble_eq_true rfl) (Nat.le_of_ble_eq_true rfl) (Nat.le_of_ble_eq_true rfl) (fun w hp => ?_)
                      obtain rfl := hp
                      refine z_aload_n hC (pc := 76) 1 dX12_end_76 rfl rfl ?_
                      refine z_get hC (pc := 77) zf12 0 2 dX12_end_77 zw710 rfl rfl (kk := ?_)
                      exact hR _ _ _ _ _ _ dX12_end_80 rfl (Nat.le_of_ble_eq_true rfl) (Nat.le_of_ble_eq_true rfl) rfl
                    · refine z_aload_n hC (pc := 31) 1 dX12_end_31 rfl rfl ?_
                      refine z_get hC (pc := 32) zf12 0 1 dX12_end_32 zw709 rfl rfl (kk := ?_)
                      refine z_aload_n hC (pc := 35) 1 dX12_end_35 rfl rfl ?_
                      refine z_get hC (pc := 36) zf12 0 2 dX12_end_36 zw710 rfl rfl (kk := ?_)
                      refine z_iload_n hC (pc := 39) 0 dX12_end_39 rfl rfl ?_
                      refine z_iadd hC (pc := 40) (v := 9) dX12_end_40 (by decide) ?_
                      refine z_aload_n hC (pc := 41) 1 dX12_end_41 rfl rfl ?_
                      refine z_get hC (pc := 42) zf12 0 0 dX12_end_42 zw708 rfl rfl (kk := ?_)
                      refine z_iload_n hC (pc := 45) 0 dX12_end_45 rfl rfl ?_
                      refine z_callSi hC (pc := 46) (k := 0) (n := 0) (As := [.ref h1, .int 9]) (wr := [(h0, .inr (12, [.ref h1, .ref h2, .int 0, .ref g4, .ref g5, .ref g6, .ref g7, .ref g8, .ref g9, .ref g10, .ref g11, .ref g12, .int 0, .int 0, .int (-1), .int (-1), .int 0, .int 0, .int 0])), (h2, .inl (G.2.1 1, 4000, .inl (upd (upd (upd (upd (upd (upd (upd (upd (upd (fun _ => 0) 0 0) 1 0) 2 0) 3 0) 4 0) 5 0) 6 0) 7 0) 8 0)))]) (kX12_getByte_96 l G h1) dmX12_getByte [1] [0, 2] rfl rfl rfl dX12_end_46 zw781 rfl rfl (Nat.le_of_ble_eq_true rfl) (Nat.le_of_ble_eq_true rfl) (Nat.le_of_ble_eq_true rfl) (Nat.le_of_ble_eq_true rfl) (Nat.le_of_ble_eq_true rfl) (fun r w hp => ?_)
                      obtain ⟨rfl, rfl⟩ := hp
                      refine z_callSv hC (pc := 49) (k := 0) (n := 0) (As := [.ref h2, .int 9, .int 0]) (wr := [(h0, .inr (12, [.ref h1, .ref h2, .int 0, .ref g4, .ref g5, .ref g6, .ref g7, .ref g8, .ref g9, .ref g10, .ref g11, .ref g12, .int 0, .int 0, .int (-1), .int (-1), .int 0, .int 0, .int 0])), (h1, .inl (G.2.1 1, 20, .inl (fun _ => 0)))]) (kX12_setByte_97 l G h2) dmX12_setByte [1] [0, 2] rfl rfl rfl dX12_end_49 zw774 rfl rfl (Nat.le_of_ble_eq_true rfl) (Nat.le_of_ble_eq_true rfl) (Nat.le_of_ble_eq_true rfl) (Nat.le_of_ble_eq_true rfl) (Nat.le_of_ble_eq_true rfl) (fun w hp => ?_)
                      obtain rfl := hp
                      refine z_iinc hC (pc := 52) (v := 10) (lv' := [(2, .int 10), (0, .ref h0), (1, .int x3)]) 0 dX12_end_52 rfl (by decide) (by decide) rfl ?_
                      refine z_goto hC (pc := 55) 26 dX12_end_55 (by decide) ?_
                      refine z_iload_n hC (pc := 26) 0 dX12_end_26 rfl rfl ?_
                      refine z_iload_n hC (pc := 27) 2 dX12_end_27 rfl rfl ?_
                      refine z_icmp_ge hC (pc := 28) 58 dX12_end_28 (by decide) (fun c11 => ?_) (fun c11 => ?_)
                      · refine z_aload_n hC (pc := 58) 1 dX12_end_58 rfl rfl ?_
                        refine z_dup hC (pc := 59) dX12_end_59 rfl ?_
                        refine z_get hC (pc := 60) zf12 0 2 dX12_end_60 zw710 rfl rfl (kk := ?_)
                        refine z_iload_n hC (pc := 63) 2 dX12_end_63 rfl rfl ?_
                        refine z_iadd hC (pc := 64) (v := x3) dX12_end_64 (Int32.zero_add _) ?_
                        refine z_put hC (pc := 65) zf12 0 2 [(h0, .inr (12, [.ref h1, .ref h2, .int x3, .ref g4, .ref g5, .ref g6, .ref g7, .ref g8, .ref g9, .ref g10, .ref g11, .ref g12, .int 0, .int 0, .int (-1), .int (-1), .int 0, .int 0, .int 0])), (h1, .inl (G.2.1 1, 20, .inl (fun _ => 0))), (h2, .inl (G.2.1 1, 4000, .inl (upd (upd (upd (upd (upd (upd (upd (upd (upd (upd (fun _ => 0) 0 0) 1 0) 2 0) 3 0) 4 0) 5 0) 6 0) 7 0) 8 0) 9 0)))] dX12_end_65 zw710 rfl rfl rfl rfl rfl (kk := ?_)
                        refine z_aload_n hC (pc := 68) 1 dX12_end_68 rfl rfl ?_
                        refine z_get hC (pc := 69) zf12 0 0 dX12_end_69 zw708 rfl rfl (kk := ?_)
                        refine z_iconst hC (pc := 72) (v := 0) dX12_end_72 (by decide) ?_
                        refine z_callSv hC (pc := 73) (k := 0) (n := 0) (As := [.ref h1, .int 0]) (wr := [(h0, .inr (12, [.ref h1, .ref h2, .int x3, .ref g4, .ref g5, .ref g6, .ref g7, .ref g8, .ref g9, .ref g10, .ref g11, .ref g12, .int 0, .int 0, .int (-1), .int (-1), .int 0, .int 0, .int 0])), (h2, .inl (G.2.1 1, 4000, .inl (upd (upd (upd (upd (upd (upd (upd (upd (upd (upd (fun _ => 0) 0 0) 1 0) 2 0) 3 0) 4 0) 5 0) 6 0) 7 0) 8 0) 9 0)))]) (kfill_b l G h1 20 (fun _ => 0) 0 (by decide)) dmJ7_fill_031fb [1] [0, 2] rfl rfl rfl dX12_end_73 zw784 rfl rfl (Nat.le_of_ble_eq_true rfl) (Nat.le_of_ble_eq_true rfl) (Nat.le_of_ble_eq_true rfl) (Nat.le_of_ble_eq_true rfl) (Nat.le_of_ble_eq_true rfl) (fun w hp => ?_)
                        obtain rfl := hp
                        refine z_aload_n hC (pc := 76) 1 dX12_end_76 rfl rfl ?_
                        refine z_get hC (pc := 77) zf12 0 2 dX12_end_77 zw710 rfl rfl (kk := ?_)
                        exact hR _ _ _ _ _ _ dX12_end_80 rfl (Nat.le_of_ble_eq_true rfl) (Nat.le_of_ble_eq_true rfl) rfl
                      · refine z_aload_n hC (pc := 31) 1 dX12_end_31 rfl rfl ?_
                        refine z_get hC (pc := 32) zf12 0 1 dX12_end_32 zw709 rfl rfl (kk := ?_)
                        refine z_aload_n hC (pc := 35) 1 dX12_end_35 rfl rfl ?_
                        refine z_get hC (pc := 36) zf12 0 2 dX12_end_36 zw710 rfl rfl (kk := ?_)
                        refine z_iload_n hC (pc := 39) 0 dX12_end_39 rfl rfl ?_
                        refine z_iadd hC (pc := 40) (v := 10) dX12_end_40 (by decide) ?_
                        refine z_aload_n hC (pc := 41) 1 dX12_end_41 rfl rfl ?_
                        refine z_get hC (pc := 42) zf12 0 0 dX12_end_42 zw708 rfl rfl (kk := ?_)
                        refine z_iload_n hC (pc := 45) 0 dX12_end_45 rfl rfl ?_
                        refine z_callSi hC (pc := 46) (k := 0) (n := 0) (As := [.ref h1, .int 10]) (wr := [(h0, .inr (12, [.ref h1, .ref h2, .int 0, .ref g4, .ref g5, .ref g6, .ref g7, .ref g8, .ref g9, .ref g10, .ref g11, .ref g12, .int 0, .int 0, .int (-1), .int (-1), .int 0, .int 0, .int 0])), (h2, .inl (G.2.1 1, 4000, .inl (upd (upd (upd (upd (upd (upd (upd (upd (upd (upd (fun _ => 0) 0 0) 1 0) 2 0) 3 0) 4 0) 5 0) 6 0) 7 0) 8 0) 9 0)))]) (kX12_getByte_98 l G h1) dmX12_getByte [1] [0, 2] rfl rfl rfl dX12_end_46 zw781 rfl rfl (Nat.le_of_ble_eq_true rfl) (Nat.le_of_ble_eq_true rfl) (Nat.le_of_ble_eq_true rfl) (Nat.le_of_ble_eq_true rfl) (Nat.le_of_ble_eq_true rfl) (fun r w hp => ?_)
                        obtain ⟨rfl, rfl⟩ := hp
                        refine z_callSv hC (pc := 49) (k := 0) (n := 0) (As := [.ref h2, .int 10, .int 0]) (wr := [(h0, .inr (12, [.ref h1, .ref h2, .int 0, .ref g4, .ref g5, .ref g6, .ref g7, .ref g8, .ref g9, .ref g10, .ref g11, .ref g12, .int 0, .int 0, .int (-1), .int (-1), .int 0, .int 0, .int 0])), (h1, .inl (G.2.1 1, 20, .inl (fun _ => 0)))]) (kX12_setByte_99 l G h2) dmX12_setByte [1] [0, 2] rfl rfl rfl dX12_end_49 zw774 rfl rfl (Nat.le_of_ble_eq_true rfl) (Nat.le_of_ble_eq_true rfl) (Nat.le_of_ble_eq_true rfl) (Nat.le_of_ble_eq_true rfl) (Nat.le_of_ble_eq_true rfl) (fun w hp => ?_)
                        obtain rfl := hp
                        refine z_iinc hC (pc := 52) (v := 11) (lv' := [(2, .int 11), (0, .ref h0), (1, .int x3)]) 0 dX12_end_52 rfl (by decide) (by decide) rfl ?_
                        refine z_goto hC (pc := 55) 26 dX12_end_55 (by decide) ?_
                        refine z_iload_n hC (pc := 26) 0 dX12_end_26 rfl rfl ?_
                        refine z_iload_n hC (pc := 27) 2 dX12_end_27 rfl rfl ?_
                        refine z_icmp_ge hC (pc := 28) 58 dX12_end_28 (by decide) (fun c12 => ?_) (fun c12 => ?_)
                        · refine z_aload_n hC (pc := 58) 1 dX12_end_58 rfl rfl ?_
                          refine z_dup hC (pc := 59) dX12_end_59 rfl ?_
                          refine z_get hC (pc := 60) zf12 0 2 dX12_end_60 zw710 rfl rfl (kk := ?_)
                          refine z_iload_n hC (pc := 63) 2 dX12_end_63 rfl rfl ?_
                          refine z_iadd hC (pc := 64) (v := x3) dX12_end_64 (Int32.zero_add _) ?_
                          refine z_put hC (pc := 65) zf12 0 2 [(h0, .inr (12, [.ref h1, .ref h2, .int x3, .ref g4, .ref g5, .ref g6, .ref g7, .ref g8, .ref g9, .ref g10, .ref g11, .ref g12, .int 0, .int 0, .int (-1), .int (-1), .int 0, .int 0, .int 0])), (h1, .inl (G.2.1 1, 20, .inl (fun _ => 0))), (h2, .inl (G.2.1 1, 4000, .inl (upd (upd (upd (upd (upd (upd (upd (upd (upd (upd (upd (fun _ => 0) 0 0) 1 0) 2 0) 3 0) 4 0) 5 0) 6 0) 7 0) 8 0) 9 0) 10 0)))] dX12_end_65 zw710 rfl rfl rfl rfl rfl (kk := ?_)
                          refine z_aload_n hC (pc := 68) 1 dX12_end_68 rfl rfl ?_
                          refine z_get hC (pc := 69) zf12 0 0 dX12_end_69 zw708 rfl rfl (kk := ?_)
                          refine z_iconst hC (pc := 72) (v := 0) dX12_end_72 (by decide) ?_
                          refine z_callSv hC (pc := 73) (k := 0) (n := 0) (As := [.ref h1, .int 0]) (wr := [(h0, .inr (12, [.ref h1, .ref h2, .int x3, .ref g4, .ref g5, .ref g6, .ref g7, .ref g8, .ref g9, .ref g10, .ref g11, .ref g12, .int 0, .int 0, .int (-1), .int (-1), .int 0, .int 0, .int 0])), (h2, .inl (G.2.1 1, 4000, .inl (upd (upd (upd (upd (upd (upd (upd (upd (upd (upd (upd (fun _ => 0) 0 0) 1 0) 2 0) 3 0) 4 0) 5 0) 6 0) 7 0) 8 0) 9 0) 10 0)))]) (kfill_b l G h1 20 (fun _ => 0) 0 (by decide)) dmJ7_fill_031fb [1] [0, 2] rfl rfl rfl dX12_end_73 zw784 rfl rfl (Nat.le_of_ble_eq_true rfl) (Nat.le_of_ble_eq_true rfl) (Nat.le_of_ble_eq_true rfl) (Nat.le_of_ble_eq_true rfl) (Nat.le_of_ble_eq_true rfl) (fun w hp => ?_)
                          obtain rfl := hp
                          refine z_aload_n hC (pc := 76) 1 dX12_end_76 rfl rfl ?_
                          refine z_get hC (pc := 77) zf12 0 2 dX12_end_77 zw710 rfl rfl (kk := ?_)
                          exact hR _ _ _ _ _ _ dX12_end_80 rfl (Nat.le_of_ble_eq_true rfl) (Nat.le_of_ble_eq_true rfl) rfl
                        · refine z_aload_n hC (pc := 31) 1 dX12_end_31 rfl rfl ?_
                          refine z_get hC (pc := 32) zf12 0 1 dX12_end_32 zw709 rfl rfl (kk := ?_)
                          refine z_aload_n hC (pc := 35) 1 dX12_end_35 rfl rfl ?_
                          refine z_get hC (pc := 36) zf12 0 2 dX12_end_36 zw710 rfl rfl (kk := ?_)
                          refine z_iload_n hC (pc := 39) 0 dX12_end_39 rfl rfl ?_
                          refine z_iadd hC (pc := 40) (v := 11) dX12_end_40 (by decide) ?_
                          refine z_aload_n hC (pc := 41) 1 dX12_end_41 rfl rfl ?_
                          refine z_get hC (pc := 42) zf12 0 0 dX12_end_42 zw708 rfl rfl (kk := ?_)
                          refine z_iload_n hC (pc := 45) 0 dX12_end_45 rfl rfl ?_
                          refine z_callSi hC (pc := 46) (k := 0) (n := 0) (As := [.ref h1, .int 11]) (wr := [(h0, .inr (12, [.ref h1, .ref h2, .int 0, .ref g4, .ref g5, .ref g6, .ref g7, .ref g8, .ref g9, .ref g10, .ref g11, .ref g12, .int 0, .int 0, .int (-1), .int (-1), .int 0, .int 0, .int 0])), (h2, .inl (G.2.1 1, 4000, .inl (upd (upd (upd (upd (upd (upd (upd (upd (upd (upd (upd (fun _ => 0) 0 0) 1 0) 2 0) 3 0) 4 0) 5 0) 6 0) 7 0) 8 0) 9 0) 10 0)))]) (kX12_getByte_100 l G h1) dmX12_getByte [1] [0, 2] rfl rfl rfl dX12_end_46 zw781 rfl rfl (Nat.le_of_ble_eq_true rfl) (Nat.le_of_ble_eq_true rfl) (Nat.le_of_ble_eq_true rfl) (Nat.le_of_ble_eq_true rfl) (Nat.le_of_ble_eq_true rfl) (fun r w hp => ?_)
                          obtain ⟨rfl, rfl⟩ := hp
                          refine z_callSv hC (pc := 49) (k := 0) (n := 0) (As := [.ref h2, .int 11, .int 0]) (wr := [(h0, .inr (12, [.ref h1, .ref h2, .int 0, .ref g4, .ref g5, .ref g6, .ref g7, .ref g8, .ref g9, .ref g10, .ref g11, .ref g12, .int 0, .int 0, .int (-1), .int (-1), .int 0, .int 0, .int 0])), (h1, .inl (G.2.1 1, 20, .inl (fun _ => 0)))]) (kX12_setByte_101 l G h2) dmX12_setByte [1] [0, 2] rfl rfl rfl dX12_end_49 zw774 rfl rfl (Nat.le_of_ble_eq_true rfl) (Nat.le_of_ble_eq_true rfl) (Nat.le_of_ble_eq_true rfl) (Nat.le_of_ble_eq_true rfl) (Nat.le_of_ble_eq_true rfl) (fun w hp => ?_)
                          obtain rfl := hp
                          refine z_iinc hC (pc := 52) (v := 12) (lv' := [(2, .int 12), (0, .ref h0), (1, .int x3)]) 0 dX12_end_52 rfl (by decide) (by decide) rfl ?_
                          refine z_goto hC (pc := 55) 26 dX12_end_55 (by decide) ?_
                          refine z_iload_n hC (pc := 26) 0 dX12_end_26 rfl rfl ?_
                          refine z_iload_n hC (pc := 27) 2 dX12_end_27 rfl rfl ?_
                          refine z_icmp_ge hC (pc := 28) 58 dX12_end_28 (by decide) (fun c13 => ?_) (fun c13 => ?_)
                          · refine z_aload_n hC (pc := 58) 1 dX12_end_58 rfl rfl ?_
                            refine z_dup hC (pc := 59) dX12_end_59 rfl ?_
                            refine z_get hC (pc := 60) zf12 0 2 dX12_end_60 zw710 rfl rfl (kk := ?_)
                            refine z_iload_n hC (pc := 63) 2 dX12_end_63 rfl rfl ?_
                            refine z_iadd hC (pc := 64) (v := x3) dX12_end_64 (Int32.zero_add _) ?_
                            refine z_put hC (pc := 65) zf12 0 2 [(h0, .inr (12, [.ref h1, .ref h2, .int x3, .ref g4, .ref g5, .ref g6, .ref g7, .ref g8, .ref g9, .ref g10, .ref g11, .ref g12, .int 0, .int 0, .int (-1), .int (-1), .int 0, .int 0, .int 0])), (h1, .inl (G.2.1 1, 20, .inl (fun _ => 0))), (h2, .inl (G.2.1 1, 4000, .inl (upd (upd (upd (upd (upd (upd (upd (upd (upd (upd (upd (upd (fun _ => 0) 0 0) 1 0) 2 0) 3 0) 4 0) 5 0) 6 0) 7 0) 8 0) 9 0) 10 0) 11 0)))] dX12_end_65 zw710 rfl rfl rfl rfl rfl (kk := ?_)
                            refine z_aload_n hC (pc := 68) 1 dX12_end_68 rfl rfl ?_
                            refine z_get hC (pc := 69) zf12 0 0 dX12_end_69 zw708 rfl rfl (kk := ?_)
                            refine z_iconst hC (pc := 72) (v := 0) dX12_end_72 (by decide) ?_
                            refine z_callSv hC (pc := 73) (k := 0) (n := 0) (As := [.ref h1, .int 0]) (wr := [(h0, .inr (12, [.ref h1, .ref h2, .int x3, .ref g4, .ref g5, .ref g6, .ref g7, .ref g8, .ref g9, .ref g10, .ref g11, .ref g12, .int 0, .int 0, .int (-1), .int (-1), .int 0, .int 0, .int 0])), (h2, .inl (G.2.1 1, 4000, .inl (upd (upd (upd (upd (upd (upd (upd (upd (upd (upd (upd (upd (fun _ => 0) 0 0) 1 0) 2 0) 3 0) 4 0) 5 0) 6 0) 7 0) 8 0) 9 0) 10 0) 11 0)))]) (kfill_b l G h1 20 (fun _ => 0) 0 (by decide)) dmJ7_fill_031fb [1] [0, 2] rfl rfl rfl dX12_end_73 zw784 rfl rfl (Nat.le_of_ble_eq_true rfl) (Nat.le_of_ble_eq_true rfl) (Nat.le_of_ble_eq_true rfl) (Nat.le_of_ble_eq_true rfl) (Nat.le_of_ble_eq_true rfl) (fun w hp => ?_)
                            obtain rfl := hp
                            refine z_aload_n hC (pc := 76) 1 dX12_end_76 rfl rfl ?_
                            refine z_get hC (pc := 77) zf12 0 2 dX12_end_77 zw710 rfl rfl (kk := ?_)
                            exact hR _ _ _ _ _ _ dX12_end_80 rfl (Nat.le_of_ble_eq_true rfl) (Nat.le_of_ble_eq_true rfl) rfl
                          · refine z_aload_n hC (pc := 31) 1 dX12_end_31 rfl rfl ?_
                            refine z_get hC (pc := 32) zf12 0 1 dX12_end_32 zw709 rfl rfl (kk := ?_)
                            refine z_aload_n hC (pc := 35) 1 dX12_end_35 rfl rfl ?_
                            refine z_get hC (pc := 36) zf12 0 2 dX12_end_36 zw710 rfl rfl (kk := ?_)
                            refine z_iload_n hC (pc := 39) 0 dX12_end_39 rfl rfl ?_
                            refine z_iadd hC (pc := 40) (v := 12) dX12_end_40 (by decide) ?_
                            refine z_aload_n hC (pc := 41) 1 dX12_end_41 rfl rfl ?_
                            refine z_get hC (pc := 42) zf12 0 0 dX12_end_42 zw708 rfl rfl (kk := ?_)
                            refine z_iload_n hC (pc := 45) 0 dX12_end_45 rfl rfl ?_
                            refine z_callSi hC (pc := 46) (k := 0) (n := 0) (As := [.ref h1, .int 12]) (wr := [(h0, .inr (12, [.ref h1, .ref h2, .int 0, .ref g4, .ref g5, .ref g6, .ref g7, .ref g8, .ref g9, .ref g10, .ref g11, .ref g12, .int 0, .int 0, .int (-1), .int (-1), .int 0, .int 0, .int 0])), (h2, .inl (G.2.1 1, 4000, .inl (upd (upd (upd (upd (upd (upd (upd (upd (upd (upd (upd (upd (fun _ => 0) 0 0) 1 0) 2 0) 3 0) 4 0) 5 0) 6 0) 7 0) 8 0) 9 0) 10 0) 11 0)))]) (kX12_getByte_102 l G h1) dmX12_getByte [1] [0, 2] rfl rfl rfl dX12_end_46 zw781 rfl rfl (Nat.le_of_ble_eq_true rfl) (Nat.le_of_ble_eq_true rfl) (Nat.le_of_ble_eq_true rfl) (Nat.le_of_ble_eq_true rfl) (Nat.le_of_ble_eq_true rfl) (fun r w hp => ?_)
                            obtain ⟨rfl, rfl⟩ := hp
                            refine z_callSv hC (pc := 49) (k := 0) (n := 0) (As := [.ref h2, .int 12, .int 0]) (wr := [(h0, .inr (12, [.ref h1, .ref h2, .int 0, .ref g4, .ref g5, .ref g6, .ref g7, .ref g8, .ref g9, .ref g10, .ref g11, .ref g12, .int 0, .int 0, .int (-1), .int (-1), .int 0, .int 0, .int 0])), (h1, .inl (G.2.1 1, 20, .inl (fun _ => 0)))]) (kX12_setByte_103 l G h2) dmX12_setByte [1] [0, 2] rfl rfl rfl dX12_end_49 zw774 rfl rfl (Nat.le_of_ble_eq_true rfl) (Nat.le_of_ble_eq_true rfl) (Nat.le_of_ble_eq_true rfl) (Nat.le_of_ble_eq_true rfl) (Nat.le_of_ble_eq_true rfl) (fun w hp => ?_)
                            obtain rfl := hp
                            refine z_iinc hC (pc := 52) (v := 13) (lv' := [(2, .int 13), (0, .ref h0), (1, .int x3)]) 0 dX12_end_52 rfl (by decide) (by decide) rfl ?_
                            refine z_goto hC (pc := 55) 26 dX12_end_55 (by decide) ?_
                            refine z_iload_n hC (pc := 26) 0 dX12_end_26 rfl rfl ?_
                            refine z_iload_n hC (pc := 27) 2 dX12_end_27 rfl rfl ?_
                            refine z_icmp_ge hC (pc := 28) 58 dX12_end_28 (by decide) (fun c14 => ?_) (fun c14 => ?_)
                            · refine z_aload_n hC (pc := 58) 1 dX12_end_58 rfl rfl ?_
                              refine z_dup hC (pc := 59) dX12_end_59 rfl ?_
                              refine z_get hC (pc := 60) zf12 0 2 dX12_end_60 zw710 rfl rfl (kk := ?_)
                              refine z_iload_n hC (pc := 63) 2 dX12_end_63 rfl rfl ?_
                              refine z_iadd hC (pc := 64) (v := x3) dX12_end_64 (Int32.zero_add _) ?_
                              refine z_put hC (pc := 65) zf12 0 2 [(h0, .inr (12, [.ref h1, .ref h2, .int x3, .ref g4, .ref g5, .ref g6, .ref g7, .ref g8, .ref g9, .ref g10, .ref g11, .ref g12, .int 0, .int 0, .int (-1), .int (-1), .int 0, .int 0, .int 0])), (h1, .inl (G.2.1 1, 20, .inl (fun _ => 0))), (h2, .inl (G.2.1 1, 4000, .inl (upd (upd (upd (upd (upd (upd (upd (upd (upd (upd (upd (upd (upd (fun _ => 0) 0 0) 1 0) 2 0) 3 0) 4 0) 5 0) 6 0) 7 0) 8 0) 9 0) 10 0) 11 0) 12 0)))] dX12_end_65 zw710 rfl rfl rfl rfl rfl (kk := ?_)
                              refine z_aload_n hC (pc := 68) 1 dX12_end_68 rfl rfl ?_
                              refine z_get hC (pc := 69) zf12 0 0 dX12_end_69 zw708 rfl rfl (kk := ?_)
                              refine z_iconst hC (pc := 72) (v := 0) dX12_end_72 (by decide) ?_
                              refine z_callSv hC (pc := 73) (k := 0) (n := 0) (As := [.ref h1, .int 0]) (wr := [(h0, .inr (12, [.ref h1, .ref h2, .int x3, .ref g4, .ref g5, .ref g6, .ref g7, .ref g8, .ref g9, .ref g10, .ref g11, .ref g12, .int 0, .int 0, .int (-1), .int (-1), .int 0, .int 0, .int 0])), (h2, .inl (G.2.1 1, 4000, .inl (upd (upd (upd (upd (upd (upd (upd (upd (upd (upd (upd (upd (upd (fun _ => 0) 0 0) 1 0) 2 0) 3 0) 4 0) 5 0) 6 0) 7 0) 8 0) 9 0) 10 0) 11 0) 12 0)))]) (kfill_b l G h1 20 (fun _ => 0) 0 (by decide)) dmJ7_fill_031fb [1] [0, 2] rfl rfl rfl dX12_end_73 zw784 rfl rfl (Nat.le_of_ble_eq_true rfl) (Nat.le_of_ble_eq_true rfl) (Nat.le_of_ble_eq_true rfl) (Nat.le_of_ble_eq_true rfl) (Nat.le_of_ble_eq_true rfl) (fun w hp => ?_)
                              obtain rfl := hp
                              refine z_aload_n hC (pc := 76) 1 dX12_end_76 rfl rfl ?_
                              refine z_get hC (pc := 77) zf12 0 2 dX12_end_77 zw710 rfl rfl (kk := ?_)
                              exact hR _ _ _ _ _ _ dX12_end_80 rfl (Nat.le_of_ble_eq_true rfl) (Nat.le_of_ble_eq_true rfl) rfl
                            · refine z_aload_n hC (pc := 31) 1 dX12_end_31 rfl rfl ?_
                              refine z_get hC (pc := 32) zf12 0 1 dX12_end_32 zw709 rfl rfl (kk := ?_)
                              refine z_aload_n hC (pc := 35) 1 dX12_end_35 rfl rfl ?_
                              refine z_get hC (pc := 36) zf12 0 2 dX12_end_36 zw710 rfl rfl (kk := ?_)
                              refine z_iload_n hC (pc := 39) 0 dX12_end_39 rfl rfl ?_
                              refine z_iadd hC (pc := 40) (v := 13) dX12_end_40 (by decide) ?_
                              refine z_aload_n hC (pc := 41) 1 dX12_end_41 rfl rfl ?_
                              refine z_get hC (pc := 42) zf12 0 0 dX12_end_42 zw708 rfl rfl (kk := ?_)
                              refine z_iload_n hC (pc := 45) 0 dX12_end_45 rfl rfl ?_
                              refine z_callSi hC (pc := 46) (k := 0) (n := 0) (As := [.ref h1, .int 13]) (wr := [(h0, .inr (12, [.ref h1, .ref h2, .int 0, .ref g4, .ref g5, .ref g6, .ref g7, .ref g8, .ref g9, .ref g10, .ref g11, .ref g12, .int 0, .int 0, .int (-1), .int (-1), .int 0, .int 0, .int 0])), (h2, .inl (G.2.1 1, 4000, .inl (upd (upd (upd (upd (upd (upd (upd (upd (upd (upd (upd (upd (upd (fun _ => 0) 0 0) 1 0) 2 0) 3 0) 4 0) 5 0) 6 0) 7 0) 8 0) 9 0) 10 0) 11 0) 12 0)))]) (kX12_getByte_104 l G h1) dmX12_getByte [1] [0, 2] rfl rfl rfl dX12_end_46 zw781 rfl rfl (Nat.le_of_ble_eq_true rfl) (Nat.le_of_ble_eq_true rfl) (Nat.le_of_ble_eq_true rfl) (Nat.le_of_ble_eq_true rfl) (Nat.le_of_ble_eq_true rfl) (fun r w hp => ?_)
                              obtain ⟨rfl, rfl⟩ := hp
                              refine z_callSv hC (pc := 49) (k := 0) (n := 0) (As := [.ref h2, .int 13, .int 0]) (wr := [(h0, .inr (12, [.ref h1, .ref h2, .int 0, .ref g4, .ref g5, .ref g6, .ref g7, .ref g8, .ref g9, .ref g10, .ref g11, .ref g12, .int 0, .int 0, .int (-1), .int (-1), .int 0, .int 0, .int 0])), (h1, .inl (G.2.1 1, 20, .inl (fun _ => 0)))]) (kX12_setByte_105 l G h2) dmX12_setByte [1] [0, 2] rfl rfl rfl dX12_end_49 zw774 rfl rfl (Nat.le_of_ble_eq_true rfl) (Nat.le_of_ble_eq_true rfl) (Nat.le_of_ble_eq_true rfl) (Nat.le_of_ble_eq_true rfl) (Nat.le_of_ble_eq_true rfl) (fun w hp => ?_)
                              obtain rfl := hp
                              refine z_iinc hC (pc := 52) (v := 14) (lv' := [(2, .int 14), (0, .ref h0), (1, .int x3)]) 0 dX12_end_52 rfl (by decide) (by decide) rfl ?_
                              refine z_goto hC (pc := 55) 26 dX12_end_55 (by decide) ?_
                              refine z_iload_n hC (pc := 26) 0 dX12_end_26 rfl rfl ?_
                              refine z_iload_n hC (pc := 27) 2 dX12_end_27 rfl rfl ?_
                              refine z_icmp_ge hC (pc := 28) 58 dX12_end_28 (by decide) (fun c15 => ?_) (fun c15 => ?_)
                              · refine z_aload_n hC (pc := 58) 1 dX12_end_58 rfl rfl ?_
                                refine z_dup hC (pc := 59) dX12_end_59 rfl ?_
                                refine z_get hC (pc := 60) zf12 0 2 dX12_end_60 zw710 rfl rfl (kk := ?_)
                                refine z_iload_n hC (pc := 63) 2 dX12_end_63 rfl rfl ?_
                                refine z_iadd hC (pc := 64) (v := x3) dX12_end_64 (Int32.zero_add _) ?_
                                refine z_put hC (pc := 65) zf12 0 2 [(h0, .inr (12, [.ref h1, .ref h2, .int x3, .ref g4, .ref g5, .ref g6, .ref g7, .ref g8, .ref g9, .ref g10, .ref g11, .ref g12, .int 0, .int 0, .int (-1), .int (-1), .int 0, .int 0, .int 0])), (h1, .inl (G.2.1 1, 20, .inl (fun _ => 0))), (h2, .inl (G.2.1 1, 4000, .inl (upd (upd (upd (upd (upd (upd (upd (upd (upd (upd (upd (upd (upd (upd (fun _ => 0) 0 0) 1 0) 2 0) 3 0) 4 0) 5 0) 6 0) 7 0) 8 0) 9 0) 10 0) 11 0) 12 0) 13 0)))] dX12_end_65 zw710 rfl rfl rfl rfl rfl (kk := ?_)
                                refine z_aload_n hC (pc := 68) 1 dX12_end_68 rfl rfl ?_
                                refine z_get hC (pc := 69) zf12 0 0 dX12_end_69 zw708 rfl rfl (kk := ?_)
                                refine z_iconst hC (pc := 72) (v := 0) dX12_end_72 (by decide) ?_
                                refine z_callSv hC (pc := 73) (k := 0) (n := 0) (As := [.ref h1, .int 0]) (wr := [(h0, .inr (12, [.ref h1, .ref h2, .int x3, .ref g4, .ref g5, .ref g6, .ref g7, .ref g8, .ref g9, .ref g10, .ref g11, .ref g12, .int 0, .int 0, .int (-1), .int (-1), .int 0, .int 0, .int 0])), (h2, .inl (G.2.1 1, 4000, .inl (upd (upd (upd (upd (upd (upd (upd (upd (upd (upd (upd (upd (upd (upd (fun _ => 0) 0 0) 1 0) 2 0) 3 0) 4 0) 5 0) 6 0) 7 0) 8 0) 9 0) 10 0) 11 0) 12 0) 13 0)))]) (kfill_b l G h1 20 (fun _ => 0) 0 (by decide)) dmJ7_fill_031fb [1] [0, 2] rfl rfl rfl dX12_end_73 zw784 rfl rfl (Nat.le_of_ble_eq_true rfl) (Nat.le_of_ble_eq_true rfl) (Nat.le_of_ble_eq_true rfl) (Nat.le_of_ble_eq_true rfl) (Nat.le_of_ble_eq_true rfl) (fun w hp => ?_)
                                obtain rfl := hp
                                refine z_aload_n hC (pc := 76) 1 dX12_end_76 rfl rfl ?_
                                refine z_get hC (pc := 77) zf12 0 2 dX12_end_77 zw710 rfl rfl (kk := ?_)
                                exact hR _ _ _ _ _ _ dX12_end_80 rfl (Nat.le_of_ble_eq_true rfl) (Nat.le_of_ble_eq_true rfl) rfl
                              · refine z_aload_n hC (pc := 31) 1 dX12_end_31 rfl rfl ?_
                                refine z_get hC (pc := 32) zf12 0 1 dX12_end_32 zw709 rfl rfl (kk := ?_)
                                refine z_aload_n hC (pc := 35) 1 dX12_end_35 rfl rfl ?_
                                refine z_get hC (pc := 36) zf12 0 2 dX12_end_36 zw710 rfl rfl (kk := ?_)
                                refine z_iload_n hC (pc := 39) 0 dX12_end_39 rfl rfl ?_
                                refine z_iadd hC (pc := 40) (v := 14) dX12_end_40 (by decide) ?_
                                refine z_aload_n hC (pc := 41) 1 dX12_end_41 rfl rfl ?_
                                refine z_get hC (pc := 42) zf12 0 0 dX12_end_42 zw708 rfl rfl (kk := ?_)
                                refine z_iload_n hC (pc := 45) 0 dX12_end_45 rfl rfl ?_
                                refine z_callSi hC (pc := 46) (k := 0) (n := 0) (As := [.ref h1, .int 14]) (wr := [(h0, .inr (12, [.ref h1, .ref h2, .int 0, .ref g4, .ref g5, .ref g6, .ref g7, .ref g8, .ref g9, .ref g10, .ref g11, .ref g12, .int 0, .int 0, .int (-1), .int (-1), .int 0, .int 0, .int 0])), (h2, .inl (G.2.1 1, 4000, .inl (upd (upd (upd (upd (upd (upd (upd (upd (upd (upd (upd (upd (upd (upd (fun _ => 0) 0 0) 1 0) 2 0) 3 0) 4 0) 5 0) 6 0) 7 0) 8 0) 9 0) 10 0) 11 0) 12 0) 13 0)))]) (kX12_getByte_106 l G h1) dmX12_getByte [1] [0, 2] rfl rfl rfl dX12_end_46 zw781 rfl rfl (Nat.le_of_ble_eq_true rfl) (Nat.le_of_ble_eq_true rfl) (Nat.le_of_ble_eq_true rfl) (Nat.le_of_ble_eq_true rfl) (Nat.le_of_ble_eq_true rfl) (fun r w hp => ?_)
                                obtain ⟨rfl, rfl⟩ := hp
                                refine z_callSv hC (pc := 49) (k := 0) (n := 0) (As := [.ref h2, .int 14, .int 0]) (wr := [(h0, .inr (12, [.ref h1, .ref h2, .int 0, .ref g4, .ref g5, .ref g6, .ref g7, .ref g8, .ref g9, .ref g10, .ref g11, .ref g12, .int 0, .int 0, .int (-1), .int (-1), .int 0, .int 0, .int 0])), (h1, .inl (G.2.1 1, 20, .inl (fun _ => 0)))]) (kX12_setByte_107 l G h2) dmX12_setByte [1] [0, 2] rfl rfl rfl dX12_end_49 zw774 rfl rfl (Nat.le_of_ble_eq_true rfl) (Nat.le_of_ble_eq_true rfl) (Nat.le_of_ble_eq_true rfl) (Nat.le_of_ble_eq_true rfl) (Nat.le_of_ble_eq_true rfl) (fun w hp => ?_)
                                obtain rfl := hp
                                refine z_iinc hC (pc := 52) (v := 15) (lv' := [(2, .int 15), (0, .ref h0), (1, .int x3)]) 0 dX12_end_52 rfl (by decide) (by decide) rfl ?_
                                refine z_goto hC (pc := 55) 26 dX12_end_55 (by decide) ?_
                                refine z_iload_n hC (pc := 26) 0 dX12_end_26 rfl rfl ?_
                                refine z_iload_n hC (pc := 27) 2 dX12_end_27 rfl rfl ?_
                                refine z_icmp_ge hC (pc := 28) 58 dX12_end_28 (by decide) (fun c16 => ?_) (fun c16 => ?_)
                                · refine z_aload_n hC (pc := 58) 1 dX12_end_58 rfl rfl ?_
                                  refine z_dup hC (pc := 59) dX12_end_59 rfl ?_
                                  refine z_get hC (pc := 60) zf12 0 2 dX12_end_60 zw710 rfl rfl (kk := ?_)
                                  refine z_iload_n hC (pc := 63) 2 dX12_end_63 rfl rfl ?_
                                  refine z_iadd hC (pc := 64) (v := x3) dX12_end_64 (Int32.zero_add _) ?_
                                  refine z_put hC (pc := 65) zf12 0 2 [(h0, .inr (12, [.ref h1, .ref h2, .int x3, .ref g4, .ref g5, .ref g6, .ref g7, .ref g8, .ref g9, .ref g10, .ref g11, .ref g12, .int 0, .int 0, .int (-1), .int (-1), .int 0, .int 0, .int 0])), (h1, .inl (G.2.1 1, 20, .inl (fun _ => 0))), (h2, .inl (G.2.1 1, 4000, .inl (upd (upd (upd (upd (upd (upd (upd (upd (upd (upd (upd (upd (upd (upd (upd (fun _ => 0) 0 0) 1 0) 2 0) 3 0) 4 0) 5 0) 6 0) 7 0) 8 0) 9 0) 10 0) 11 0) 12 0) 13 0) 14 0)))] dX12_end_65 zw710 rfl rfl rfl rfl rfl (kk := ?_)
                                  refine z_aload_n hC (pc := 68) 1 dX12_end_68 rfl rfl ?_
                                  refine z_get hC (pc := 69) zf12 0 0 dX12_end_69 zw708 rfl rfl (kk := ?_)
                                  refine z_iconst hC (pc := 72) (v := 0) dX12_end_72 (by decide) ?_
                                  refine z_callSv hC (pc := 73) (k := 0) (n := 0) (As := [.ref h1, .int 0]) (wr := [(h0, .inr (12, [.ref h1, .ref h2, .int x3, .ref g4, .ref g5, .ref g6, .ref g7, .ref g8, .ref g9, .ref g10, .ref g11, .ref g12, .int 0, .int 0, .int (-1), .int (-1), .int 0, .int 0, .int 0])), (h2, .inl (G.2.1 1, 4000, .inl (upd (upd (upd (upd (upd (upd (upd (upd (upd (upd (upd (upd (upd (upd (upd (fun _ => 0) 0 0) 1 0) 2 0) 3 0) 4 0) 5 0) 6 0) 7 0) 8 0) 9 0) 10 0) 11 0) 12 0) 13 0) 14 0)))]) (kfill_b l G h1 20 (fun _ => 0) 0 (by decide)) dmJ7_fill_031fb [1] [0, 2] rfl rfl rfl dX12_end_73 zw784 rfl rfl (Nat.le_of_ble_eq_true rfl) (Nat.le_of_ble_eq_true rfl) (Nat.le_of_ble_eq_true rfl) (Nat.le_of_ble_eq_true rfl) (Nat.le_of_ble_eq_true rfl) (fun w hp => ?_)
                                  obtain rfl := hp
                                  refine z_aload_n hC (pc := 76) 1 dX12_end_76 rfl rfl ?_
                                  refine z_get hC (pc := 77) zf12 0 2 dX12_end_77 zw710 rfl rfl (kk := ?_)
                                  exact hR _ _ _ _ _ _ dX12_end_80 rfl (Nat.le_of_ble_eq_true rfl) (Nat.le_of_ble_eq_true rfl) rfl
                                · refine z_aload_n hC (pc := 31) 1 dX12_end_31 rfl rfl ?_
                                  refine z_get hC (pc := 32) zf12 0 1 dX12_end_32 zw709 rfl rfl (kk := ?_)
                                  refine z_aload_n hC (pc := 35) 1 dX12_end_35 rfl rfl ?_
                                  refine z_get hC (pc := 36) zf12 0 2 dX12_end_36 zw710 rfl rfl (kk := ?_)
                                  refine z_iload_n hC (pc := 39) 0 dX12_end_39 rfl rfl ?_
                                  refine z_iadd hC (pc := 40) (v := 15) dX12_end_40 (by decide) ?_
                                  refine z_aload_n hC (pc := 41) 1 dX12_end_41 rfl rfl ?_
                                  refine z_get hC (pc := 42) zf12 0 0 dX12_end_42 zw708 rfl rfl (kk := ?_)
                                  refine z_iload_n hC (pc := 45) 0 dX12_end_45 rfl rfl ?_
                                  refine z_callSi hC (pc := 46) (k := 0) (n := 0) (As := [.ref h1, .int 15]) (wr := [(h0, .inr (12, [.ref h1, .ref h2, .int 0, .ref g4, .ref g5, .ref g6, .ref g7, .ref g8, .ref g9, .ref g10, .ref g11, .ref g12, .int 0, .int 0, .int (-1), .int (-1), .int 0, .int 0, .int 0])), (h2, .inl (G.2.1 1, 4000, .inl (upd (upd (upd (upd (upd (upd (upd (upd (upd (upd (upd (upd (upd (upd (upd (fun _ => 0) 0 0) 1 0) 2 0) 3 0) 4 0) 5 0) 6 0) 7 0) 8 0) 9 0) 10 0) 11 0) 12 0) 13 0) 14 0)))]) (kX12_getByte_108 l G h1) dmX12_getByte [1] [0, 2] rfl rfl rfl dX12_end_46 zw781 rfl rfl (Nat.le_of_ble_eq_true rfl) (Nat.le_of_ble_eq_true rfl) (Nat.le_of_ble_eq_true rfl) (Nat.le_of_ble_eq_true rfl) (Nat.le_of_ble_eq_true rfl) (fun r w hp => ?_)
                                  obtain ⟨rfl, rfl⟩ := hp
                                  refine z_callSv hC (pc := 49) (k := 0) (n := 0) (As := [.ref h2, .int 15, .int 0]) (wr := [(h0, .inr (12, [.ref h1, .ref h2, .int 0, .ref g4, .ref g5, .ref g6, .ref g7, .ref g8, .ref g9, .ref g10, .ref g11, .ref g12, .int 0, .int 0, .int (-1), .int (-1), .int 0, .int 0, .int 0])), (h1, .inl (G.2.1 1, 20, .inl (fun _ => 0)))]) (kX12_setByte_109 l G h2) dmX12_setByte [1] [0, 2] rfl rfl rfl dX12_end_49 zw774 rfl rfl (Nat.le_of_ble_eq_true rfl) (Nat.le_of_ble_eq_true rfl) (Nat.le_of_ble_eq_true rfl) (Nat.le_of_ble_eq_true rfl) (Nat.le_of_ble_eq_true rfl) (fun w hp => ?_)
                                  obtain rfl := hp
                                  refine z_iinc hC (pc := 52) (v := 16) (lv' := [(2, .int 16), (0, .ref h0), (1, .int x3)]) 0 dX12_end_52 rfl (by decide) (by decide) rfl ?_
                                  refine z_goto hC (pc := 55) 26 dX12_end_55 (by decide) ?_
                                  refine z_iload_n hC (pc := 26) 0 dX12_end_26 rfl rfl ?_
                                  refine z_iload_n hC (pc := 27) 2 dX12_end_27 rfl rfl ?_
                                  refine z_icmp_ge hC (pc := 28) 58 dX12_end_28 (by decide) (fun c17 => ?_) (fun c17 => ?_)
                                  · refine z_aload_n hC (pc := 58) 1 dX12_end_58 rfl rfl ?_
                                    refine z_dup hC (pc := 59) dX12_end_59 rfl ?_
                                    refine z_get hC (pc := 60) zf12 0 2 dX12_end_60 zw710 rfl rfl (kk := ?_)
                                    refine z_iload_n hC (pc := 63) 2 dX12_end_63 rfl rfl ?_
                                    refine z_iadd hC (pc := 64) (v := x3) dX12_end_64 (Int32.zero_add _) ?_
                                    refine z_put hC (pc := 65) zf12 0 2 [(h0, .inr (12, [.ref h1, .ref h2, .int x3, .ref g4, .ref g5, .ref g6, .ref g7, .ref g8, .ref g9, .ref g10, .ref g11, .ref g12, .int 0, .int 0, .int (-1), .int (-1), .int 0, .int 0, .int 0])), (h1, .inl (G.2.1 1, 20, .inl (fun _ => 0))), (h2, .inl (G.2.1 1, 4000, .inl (upd (upd (upd (upd (upd (upd (upd (upd (upd (upd (upd (upd (upd (upd (upd (upd (fun _ => 0) 0 0) 1 0) 2 0) 3 0) 4 0) 5 0) 6 0) 7 0) 8 0) 9 0) 10 0) 11 0) 12 0) 13 0) 14 0) 15 0)))] dX12_end_65 zw710 rfl rfl rfl rfl rfl (kk := ?_)
                                    refine z_aload_n hC (pc := 68) 1 dX12_end_68 rfl rfl ?_
                                    refine z_get hC (pc := 69) zf12 0 0 dX12_end_69 zw708 rfl rfl (kk := ?_)
                                    refine z_iconst hC (pc := 72) (v := 0) dX12_end_72 (by decide) ?_
                                    refine z_callSv hC (pc := 73) (k := 0) (n := 0) (As := [.ref h1, .int 0]) (wr := [(h0, .inr (12, [.ref h1, .ref h2, .int x3, .ref g4, .ref g5, .ref g6, .ref g7, .ref g8, .ref g9, .ref g10, .ref g11, .ref g12, .int 0, .int 0, .int (-1), .int (-1), .int 0, .int 0, .int 0])), (h2, .inl (G.2.1 1, 4000, .inl (upd (upd (upd (upd (upd (upd (upd (upd (upd (upd (upd (upd (upd (upd (upd (upd (fun _ => 0) 0 0) 1 0) 2 0) 3 0) 4 0) 5 0) 6 0) 7 0) 8 0) 9 0) 10 0) 11 0) 12 0) 13 0) 14 0) 15 0)))]) (kfill_b l G h1 20 (fun _ => 0) 0 (by decide)) dmJ7_fill_031fb [1] [0, 2] rfl rfl rfl dX12_end_73 zw784 rfl rfl (Nat.le_of_ble_eq_true rfl) (Nat.le_of_ble_eq_true rfl) (Nat.le_of_ble_eq_true rfl) (Nat.le_of_ble_eq_true rfl) (Nat.le_of_ble_eq_true rfl) (fun w hp => ?_)
                                    obtain rfl := hp
                                    refine z_aload_n hC (pc := 76) 1 dX12_end_76 rfl rfl ?_
                                    refine z_get hC (pc := 77) zf12 0 2 dX12_end_77 zw710 rfl rfl (kk := ?_)
                                    exact hR _ _ _ _ _ _ dX12_end_80 rfl (Nat.le_of_ble_eq_true rfl) (Nat.le_of_ble_eq_true rfl) rfl
                                  · refine z_aload_n hC (pc := 31) 1 dX12_end_31 rfl rfl ?_
                                    refine z_get hC (pc := 32) zf12 0 1 dX12_end_32 zw709 rfl rfl (kk := ?_)
                                    refine z_aload_n hC (pc := 35) 1 dX12_end_35 rfl rfl ?_
                                    refine z_get hC (pc := 36) zf12 0 2 dX12_end_36 zw710 rfl rfl (kk := ?_)
                                    refine z_iload_n hC (pc := 39) 0 dX12_end_39 rfl rfl ?_
                                    refine z_iadd hC (pc := 40) (v := 16) dX12_end_40 (by decide) ?_
                                    refine z_aload_n hC (pc := 41) 1 dX12_end_41 rfl rfl ?_
                                    refine z_get hC (pc := 42) zf12 0 0 dX12_end_42 zw708 rfl rfl (kk := ?_)
                                    refine z_iload_n hC (pc := 45) 0 dX12_end_45 rfl rfl ?_
                                    refine z_callSi hC (pc := 46) (k := 0) (n := 0) (As := [.ref h1, .int 16]) (wr := [(h0, .inr (12, [.ref h1, .ref h2, .int 0, .ref g4, .ref g5, .ref g6, .ref g7, .ref g8, .ref g9, .ref g10, .ref g11, .ref g12, .int 0, .int 0, .int (-1), .int (-1), .int 0, .int 0, .int 0])), (h2, .inl (G.2.1 1, 4000, .inl (upd (upd (upd (upd (upd (upd (upd (upd (upd (upd (upd (upd (upd (upd (upd (upd (fun _ => 0) 0 0) 1 0) 2 0) 3 0) 4 0) 5 0) 6 0) 7 0) 8 0) 9 0) 10 0) 11 0) 12 0) 13 0) 14 0) 15 0)))]) (kX12_getByte_110 l G h1) dmX12_getByte [1] [0, 2] rfl rfl rfl dX12_end_46 zw781 rfl rfl (Nat.le_of_ble_eq_true rfl) (Nat.le_of_ble_eq_true rfl) (Nat.le_of_ble_eq_true rfl) (Nat.le_of_ble_eq_true rfl) (Nat.le_of_ble_eq_true rfl) (fun r w hp => ?_)
                                    obtain ⟨rfl, rfl⟩ := hp
                                    refine z_callSv hC (pc := 49) (k := 0) (n := 0) (As := [.ref h2, .int 16, .int 0]) (wr := [(h0, .inr (12, [.ref h1, .ref h2, .int 0, .ref g4, .ref g5, .ref g6, .ref g7, .ref g8, .ref g9, .ref g10, .ref g11, .ref g12, .int 0, .int 0, .int (-1), .int (-1), .int 0, .int 0, .int 0])), (h1, .inl (G.2.1 1, 20, .inl (fun _ => 0)))]) (kX12_setByte_111 l G h2) dmX12_setByte [1] [0, 2] rfl rfl rfl dX12_end_49 zw774 rfl rfl (Nat.le_of_ble_eq_true rfl) (Nat.le_of_ble_eq_true rfl) (Nat.le_of_ble_eq_true rfl) (Nat.le_of_ble_eq_true rfl) (Nat.le_of_ble_eq_true rfl) (fun w hp => ?_)
                                    obtain rfl := hp
                                    refine z_iinc hC (pc := 52) (v := 17) (lv' := [(2, .int 17), (0, .ref h0), (1, .int x3)]) 0 dX12_end_52 rfl (by decide) (by decide) rfl ?_
                                    refine z_goto hC (pc := 55) 26 dX12_end_55 (by decide) ?_
                                    refine z_iload_n hC (pc := 26) 0 dX12_end_26 rfl rfl ?_
                                    refine z_iload_n hC (pc := 27) 2 dX12_end_27 rfl rfl ?_
                                    refine z_icmp_ge hC (pc := 28) 58 dX12_end_28 (by decide) (fun c18 => ?_) (fun c18 => ?_)
                                    · refine z_aload_n hC (pc := 58) 1 dX12_end_58 rfl rfl ?_
                                      refine z_dup hC (pc := 59) dX12_end_59 rfl ?_
                                      refine z_get hC (pc := 60) zf12 0 2 dX12_end_60 zw710 rfl rfl (kk := ?_)
                                      refine z_iload_n hC (pc := 63) 2 dX12_end_63 rfl rfl ?_
                                      refine z_iadd hC (pc := 64) (v := x3) dX12_end_64 (Int32.zero_add _) ?_
                                      refine z_put hC (pc := 65) zf12 0 2 [(h0, .inr (12, [.ref h1, .ref h2, .int x3, .ref g4, .ref g5, .ref g6, .ref g7, .ref g8, .ref g9, .ref g10, .ref g11, .ref g12, .int 0, .int 0, .int (-1), .int (-1), .int 0, .int 0, .int 0])), (h1, .inl (G.2.1 1, 20, .inl (fun _ => 0))), (h2, .inl (G.2.1 1, 4000, .inl (upd (upd (upd (upd (upd (upd (upd (upd (upd (upd (upd (upd (upd (upd (upd (upd (upd (fun _ => 0) 0 0) 1 0) 2 0) 3 0) 4 0) 5 0) 6 0) 7 0) 8 0) 9 0) 10 0) 11 0) 12 0) 13 0) 14 0) 15 0) 16 0)))] dX12_end_65 zw710 rfl rfl rfl rfl rfl (kk := ?_)
                                      refine z_aload_n hC (pc := 68) 1 dX12_end_68 rfl rfl ?_
                                      refine z_get hC (pc := 69) zf12 0 0 dX12_end_69 zw708 rfl rfl (kk := ?_)
                                      refine z_iconst hC (pc := 72) (v := 0) dX12_end_72 (by decide) ?_
                                      refine z_callSv hC (pc := 73) (k := 0) (n := 0) (As := [.ref h1, .int 0]) (wr := [(h0, .inr (12, [.ref h1, .ref h2, .int x3, .ref g4, .ref g5, .ref g6, .ref g7, .ref g8, .ref g9, .ref g10, .ref g11, .ref g12, .int 0, .int 0, .int (-1), .int (-1), .int 0, .int 0, .int 0])), (h2, .inl (G.2.1 1, 4000, .inl (upd (upd (upd (upd (upd (upd (upd (upd (upd (upd (upd (upd (upd (upd (upd (upd (upd (fun _ => 0) 0 0) 1 0) 2 0) 3 0) 4 0) 5 0) 6 0) 7 0) 8 0) 9 0) 10 0) 11 0) 12 0) 13 0) 14 0) 15 0) 16 0)))]) (kfill_b l G h1 20 (fun _ => 0) 0 (by decide)) dmJ7_fill_031fb [1] [0, 2] rfl rfl rfl dX12_end_73 zw784 rfl rfl (Nat.le_of_ble_eq_true rfl) (Nat.le_of_ble_eq_true rfl) (Nat.le_of_ble_eq_true rfl) (Nat.le_of_ble_eq_true rfl) (Nat.le_of_ble_eq_true rfl) (fun w hp => ?_)
                                      obtain rfl := hp
                                      refine z_aload_n hC (pc := 76) 1 dX12_end_76 rfl rfl ?_
                                      refine z_get hC (pc := 77) zf12 0 2 dX12_end_77 zw710 rfl rfl (kk := ?_)
                                      exact hR _ _ _ _ _ _ dX12_end_80 rfl (Nat.le_of_ble_eq_true rfl) (Nat.le_of_ble_eq_true rfl) rfl
                                    · refine z_aload_n hC (pc := 31) 1 dX12_end_31 rfl rfl ?_
                                      refine z_get hC (pc := 32) zf12 0 1 dX12_end_32 zw709 rfl rfl (kk := ?_)
                                      refine z_aload_n hC (pc := 35) 1 dX12_end_35 rfl rfl ?_
                                      refine z_get hC (pc := 36) zf12 0 2 dX12_end_36 zw710 rfl rfl (kk := ?_)
                                      refine z_iload_n hC (pc := 39) 0 dX12_end_39 rfl rfl ?_
                                      refine z_iadd hC (pc := 40) (v := 17) dX12_end_40 (by decide) ?_
                                      refine z_aload_n hC (pc := 41) 1 dX12_end_41 rfl rfl ?_
                                      refine z_get hC (pc := 42) zf12 0 0 dX12_end_42 zw708 rfl rfl (kk := ?_)
                                      refine z_iload_n hC (pc := 45) 0 dX12_end_45 rfl rfl ?_
                                      refine z_callSi hC (pc := 46) (k := 0) (n := 0) (As := [.ref h1, .int 17]) (wr := [(h0, .inr (12, [.ref h1, .ref h2, .int 0, .ref g4, .ref g5, .ref g6, .ref g7, .ref g8, .ref g9, .ref g10, .ref g11, .ref g12, .int 0, .int 0, .int (-1), .int (-1), .int 0, .int 0, .int 0])), (h2, .inl (G.2.1 1, 4000, .inl (upd (upd (upd (upd (upd (upd (upd (upd (upd (upd (upd (upd (upd (upd (upd (upd (upd (fun _ => 0) 0 0) 1 0) 2 0) 3 0) 4 0) 5 0) 6 0) 7 0) 8 0) 9 0) 10 0) 11 0) 12 0) 13 0) 14 0) 15 0) 16 0)))]) (kX12_getByte_112 l G h1) dmX12_getByte [1] [0, 2] rfl rfl rfl dX12_end_46 zw781 rfl rfl (Nat.le_of_ble_eq_true rfl) (Nat.le_of_ble_eq_true rfl) (Nat.le_of_ble_eq_true rfl) (Nat.le_of_ble_eq_true rfl) (Nat.le_of_ble_eq_true rfl) (fun r w hp => ?_)
                                      obtain ⟨rfl, rfl⟩ := hp
                                      refine z_callSv hC (pc := 49) (k := 0) (n := 0) (As := [.ref h2, .int 17, .int 0]) (wr := [(h0, .inr (12, [.ref h1, .ref h2, .int 0, .ref g4, .ref g5, .ref g6, .ref g7, .ref g8, .ref g9, .ref g10, .ref g11, .ref g12, .int 0, .int 0, .int (-1), .int (-1), .int 0, .int 0, .int 0])), (h1, .inl (G.2.1 1, 20, .inl (fun _ => 0)))]) (kX12_setByte_113 l G h2) dmX12_setByte [1] [0, 2] rfl rfl rfl dX12_end_49 zw774 rfl rfl (Nat.le_of_ble_eq_true rfl) (Nat.le_of_ble_eq_true rfl) (Nat.le_of_ble_eq_true rfl) (Nat.le_of_ble_eq_true rfl) (Nat.le_of_ble_eq_true rfl) (fun w hp => ?_)
                                      obtain rfl := hp
                                      refine z_iinc hC (pc := 52) (v := 18) (lv' := [(2, .int 18), (0, .ref h0), (1, .int x3)]) 0 dX12_end_52 rfl (by decide) (by decide) rfl ?_
                                      refine z_goto hC (pc := 55) 26 dX12_end_55 (by decide) ?_
                                      refine z_iload_n hC (pc := 26) 0 dX12_end_26 rfl rfl ?_
                                      refine z_iload_n hC (pc := 27) 2 dX12_end_27 rfl rfl ?_
                                      refine z_icmp_ge hC (pc := 28) 58 dX12_end_28 (by decide) (fun c19 => ?_) (fun c19 => ?_)
                                      · refine z_aload_n hC (pc := 58) 1 dX12_end_58 rfl rfl ?_
                                        refine z_dup hC (pc := 59) dX12_end_59 rfl ?_
                                        refine z_get hC (pc := 60) zf12 0 2 dX12_end_60 zw710 rfl rfl (kk := ?_)
                                        refine z_iload_n hC (pc := 63) 2 dX12_end_63 rfl rfl ?_
                                        refine z_iadd hC (pc := 64) (v := x3) dX12_end_64 (Int32.zero_add _) ?_
                                        refine z_put hC (pc := 65) zf12 0 2 [(h0, .inr (12, [.ref h1, .ref h2, .int x3, .ref g4, .ref g5, .ref g6, .ref g7, .ref g8, .ref g9, .ref g10, .ref g11, .ref g12, .int 0, .int 0, .int (-1), .int (-1), .int 0, .int 0, .int 0])), (h1, .inl (G.2.1 1, 20, .inl (fun _ => 0))), (h2, .inl (G.2.1 1, 4000, .inl (upd (upd (upd (upd (upd (upd (upd (upd (upd (upd (upd (upd (upd (upd (upd (upd (upd (upd (fun _ => 0) 0 0) 1 0) 2 0) 3 0) 4 0) 5 0) 6 0) 7 0) 8 0) 9 0) 10 0) 11 0) 12 0) 13 0) 14 0) 15 0) 16 0) 17 0)))] dX12_end_65 zw710 rfl rfl rfl rfl rfl (kk := ?_)
                                        refine z_aload_n hC (pc := 68) 1 dX12_end_68 rfl rfl ?_
                                        refine z_get hC (pc := 69) zf12 0 0 dX12_end_69 zw708 rfl rfl (kk := ?_)
                                        refine z_iconst hC (pc := 72) (v := 0) dX12_end_72 (by decide) ?_
                                        refine z_callSv hC (pc := 73) (k := 0) (n := 0) (As := [.ref h1, .int 0]) (wr := [(h0, .inr (12, [.ref h1, .ref h2, .int x3, .ref g4, .ref g5, .ref g6, .ref g7, .ref g8, .ref g9, .ref g10, .ref g11, .ref g12, .int 0, .int 0, .int (-1), .int (-1), .int 0, .int 0, .int 0])), (h2, .inl (G.2.1 1, 4000, .inl (upd (upd (upd (upd (upd (upd (upd (upd (upd (upd (upd (upd (upd (upd (upd (upd (upd (upd (fun _ => 0) 0 0) 1 0) 2 0) 3 0) 4 0) 5 0) 6 0) 7 0) 8 0) 9 0) 10 0) 11 0) 12 0) 13 0) 14 0) 15 0) 16 0) 17 0)))]) (kfill_b l G h1 20 (fun _ => 0) 0 (by decide)) dmJ7_fill_031fb [1] [0, 2] rfl rfl rfl dX12_end_73 zw784 rfl rfl (Nat.le_of_ble_eq_true rfl) (Nat.le_of_ble_eq_true rfl) (Nat.le_of_ble_eq_true rfl) (Nat.le_of_ble_eq_true rfl) (Nat.le_of_ble_eq_true rfl) (fun w hp => ?_)
                                        obtain rfl := hp
                                        refine z_aload_n hC (pc := 76) 1 dX12_end_76 rfl rfl ?_
                                        refine z_get hC (pc := 77) zf12 0 2 dX12_end_77 zw710 rfl rfl (kk := ?_)
                                        exact hR _ _ _ _ _ _ dX12_end_80 rfl (Nat.le_of_ble_eq_true rfl) (Nat.le_of_ble_eq_true rfl) rfl
                                      · refine z_aload_n hC (pc := 31) 1 dX12_end_31 rfl rfl ?_
                                        refine z_get hC (pc := 32) zf12 0 1 dX12_end_32 zw709 rfl rfl (kk := ?_)
                                        refine z_aload_n hC (pc := 35) 1 dX12_end_35 rfl rfl ?_
                                        refine z_get hC (pc := 36) zf12 0 2 dX12_end_36 zw710 rfl rfl (kk := ?_)
                                        refine z_iload_n hC (pc := 39) 0 dX12_end_39 rfl rfl ?_
                                        refine z_iadd hC (pc := 40) (v := 18) dX12_end_40 (by decide) ?_
                                        refine z_aload_n hC (pc := 41) 1 dX12_end_41 rfl rfl ?_
                                        refine z_get hC (pc := 42) zf12 0 0 dX12_end_42 zw708 rfl rfl (kk := ?_)
                                        refine z_iload_n hC (pc := 45) 0 dX12_end_45 rfl rfl ?_
                                        refine z_callSi hC (pc := 46) (k := 0) (n := 0) (As := [.ref h1, .int 18]) (wr := [(h0, .inr (12, [.ref h1, .ref h2, .int 0, .ref g4, .ref g5, .ref g6, .ref g7, .ref g8, .ref g9, .ref g10, .ref g11, .ref g12, .int 0, .int 0, .int (-1), .int (-1), .int 0, .int 0, .int 0])), (h2, .inl (G.2.1 1, 4000, .inl (upd (upd (upd (upd (upd (upd (upd (upd (upd (upd (upd (upd (upd (upd (upd (upd (upd (upd (fun _ => 0) 0 0) 1 0) 2 0) 3 0) 4 0) 5 0) 6 0) 7 0) 8 0) 9 0) 10 0) 11 0) 12 0) 13 0) 14 0) 15 0) 16 0) 17 0)))]) (kX12_getByte_114 l G h1) dmX12_getByte [1] [0, 2] rfl rfl rfl dX12_end_46 zw781 rfl rfl (Nat.le_of_ble_eq_true rfl) (Nat.le_of_ble_eq_true rfl) (Nat.le_of_ble_eq_true rfl) (Nat.le_of_ble_eq_true rfl) (Nat.le_of_ble_eq_true rfl) (fun r w hp => ?_)
                                        obtain ⟨rfl, rfl⟩ := hp
                                        refine z_callSv hC (pc := 49) (k := 0) (n := 0) (As := [.ref h2, .int 18, .int 0]) (wr := [(h0, .inr (12, [.ref h1, .ref h2, .int 0, .ref g4, .ref g5, .ref g6, .ref g7, .ref g8, .ref g9, .ref g10, .ref g11, .ref g12, .int 0, .int 0, .int (-1), .int (-1), .int 0, .int 0, .int 0])), (h1, .inl (G.2.1 1, 20, .inl (fun _ => 0)))]) (kX12_setByte_115 l G h2) dmX12_setByte [1] [0, 2] rfl rfl rfl dX12_end_49 zw774 rfl rfl (Nat.le_of_ble_eq_true rfl) (Nat.le_of_ble_eq_true rfl) (Nat.le_of_ble_eq_true rfl) (Nat.le_of_ble_eq_true rfl) (Nat.le_of_ble_eq_true rfl) (fun w hp => ?_)
                                        obtain rfl := hp
                                        refine z_iinc hC (pc := 52) (v := 19) (lv' := [(2, .int 19), (0, .ref h0), (1, .int x3)]) 0 dX12_end_52 rfl (by decide) (by decide) rfl ?_
                                        refine z_goto hC (pc := 55) 26 dX12_end_55 (by decide) ?_
                                        refine z_iload_n hC (pc := 26) 0 dX12_end_26 rfl rfl ?_
                                        refine z_iload_n hC (pc := 27) 2 dX12_end_27 rfl rfl ?_
                                        refine z_icmp_ge hC (pc := 28) 58 dX12_end_28 (by decide) (fun c20 => ?_) (fun c20 => ?_)
                                        · refine z_aload_n hC (pc := 58) 1 dX12_end_58 rfl rfl ?_
                                          refine z_dup hC (pc := 59) dX12_end_59 rfl ?_
                                          refine z_get hC (pc := 60) zf12 0 2 dX12_end_60 zw710 rfl rfl (kk := ?_)
                                          refine z_iload_n hC (pc := 63) 2 dX12_end_63 rfl rfl ?_
                                          refine z_iadd hC (pc := 64) (v := x3) dX12_end_64 (Int32.zero_add _) ?_
                                          refine z_put hC (pc := 65) zf12 0 2 [(h0, .inr (12, [.ref h1, .ref h2, .int x3, .ref g4, .ref g5, .ref g6, .ref g7, .ref g8, .ref g9, .ref g10, .ref g11, .ref g12, .int 0, .int 0, .int (-1), .int (-1), .int 0, .int 0, .int 0])), (h1, .inl (G.2.1 1, 20, .inl (fun _ => 0))), (h2, .inl (G.2.1 1, 4000, .inl (upd (upd (upd (upd (upd (upd (upd (upd (upd (upd (upd (upd (upd (upd (upd (upd (upd (upd (upd (fun _ => 0) 0 0) 1 0) 2 0) 3 0) 4 0) 5 0) 6 0) 7 0) 8 0) 9 0) 10 0) 11 0) 12 0) 13 0) 14 0) 15 0) 16 0) 17 0) 18 0)))] dX12_end_65 zw710 rfl rfl rfl rfl rfl (kk := ?_)
                                          refine z_aload_n hC (pc := 68) 1 dX12_end_68 rfl rfl ?_
                                          refine z_get hC (pc := 69) zf12 0 0 dX12_end_69 zw708 rfl rfl (kk := ?_)
                                          refine z_iconst hC (pc := 72) (v := 0) dX12_end_72 (by decide) ?_
                                          refine z_callSv hC (pc := 73) (k := 0) (n := 0) (As := [.ref h1, .int 0]) (wr := [(h0, .inr (12, [.ref h1, .ref h2, .int x3, .ref g4, .ref g5, .ref g6, .ref g7, .ref g8, .ref g9, .ref g10, .ref g11, .ref g12, .int 0, .int 0, .int (-1), .int (-1), .int 0, .int 0, .int 0])), (h2, .inl (G.2.1 1, 4000, .inl (upd (upd (upd (upd (upd (upd (upd (upd (upd (upd (upd (upd (upd (upd (upd (upd (upd (upd (upd (fun _ => 0) 0 0) 1 0) 2 0) 3 0) 4 0) 5 0) 6 0) 7 0) 8 0) 9 0) 10 0) 11 0) 12 0) 13 0) 14 0) 15 0) 16 0) 17 0) 18 0)))]) (kfill_b l G h1 20 (fun _ => 0) 0 (by decide)) dmJ7_fill_031fb [1] [0, 2] rfl rfl rfl dX12_end_73 zw784 rfl rfl (Nat.le_of_ble_eq_true rfl) (Nat.le_of_ble_eq_true rfl) (Nat.le_of_ble_eq_true rfl) (Nat.le_of_ble_eq_true rfl) (Nat.le_of_ble_eq_true rfl) (fun w hp => ?_)
                                          obtain rfl := hp
                                          refine z_aload_n hC (pc := 76) 1 dX12_end_76 rfl rfl ?_
                                          refine z_get hC (pc := 77) zf12 0 2 dX12_end_77 zw710 rfl rfl (kk := ?_)
                                          exact hR _ _ _ _ _ _ dX12_end_80 rfl (Nat.le_of_ble_eq_true rfl) (Nat.le_of_ble_eq_true rfl) rfl
                                        · refine z_aload_n hC (pc := 31) 1 dX12_end_31 rfl rfl ?_
                                          refine z_get hC (pc := 32) zf12 0 1 dX12_end_32 zw709 rfl rfl (kk := ?_)
                                          refine z_aload_n hC (pc := 35) 1 dX12_end_35 rfl rfl ?_
                                          refine z_get hC (pc := 36) zf12 0 2 dX12_end_36 zw710 rfl rfl (kk := ?_)
                                          refine z_iload_n hC (pc := 39) 0 dX12_end_39 rfl rfl ?_
                                          refine z_iadd hC (pc := 40) (v := 19) dX12_end_40 (by decide) ?_
                                          refine z_aload_n hC (pc := 41) 1 dX12_end_41 rfl rfl ?_
                                          refine z_get hC (pc := 42) zf12 0 0 dX12_end_42 zw708 rfl rfl (kk := ?_)
                                          refine z_iload_n hC (pc := 45) 0 dX12_end_45 rfl rfl ?_
                                          refine z_callSi hC (pc := 46) (k := 0) (n := 0) (As := [.ref h1, .int 19]) (wr := [(h0, .inr (12, [.ref h1, .ref h2, .int 0, .ref g4, .ref g5, .ref g6, .ref g7, .ref g8, .ref g9, .ref g10, .ref g11, .ref g12, .int 0, .int 0, .int (-1), .int (-1), .int 0, .int 0, .int 0])), (h2, .inl (G.2.1 1, 4000, .inl (upd (upd (upd (upd (upd (upd (upd (upd (upd (upd (upd (upd (upd (upd (upd (upd (upd (upd (upd (fun _ => 0) 0 0) 1 0) 2 0) 3 0) 4 0) 5 0) 6 0) 7 0) 8 0) 9 0) 10 0) 11 0) 12 0) 13 0) 14 0) 15 0) 16 0) 17 0) 18 0)))]) (kX12_getByte_116 l G h1) dmX12_getByte [1] [0, 2] rfl rfl rfl dX12_end_46 zw781 rfl rfl (Nat.le_of_ble_eq_true rfl) (Nat.le_of_ble_eq_true rfl) (Nat.le_of_ble_eq_true rfl) (Nat.le_of_ble_eq_true rfl) (Nat.le_of_ble_eq_true rfl) (fun r w hp => ?_)
                                          obtain ⟨rfl, rfl⟩ := hp
                                          refine z_callSv hC (pc := 49) (k := 0) (n := 0) (As := [.ref h2, .int 19, .int 0]) (wr := [(h0, .inr (12, [.ref h1, .ref h2, .int 0, .ref g4, .ref g5, .ref g6, .ref g7, .ref g8, .ref g9, .ref g10, .ref g11, .ref g12, .int 0, .int 0, .int (-1), .int (-1), .int 0, .int 0, .int 0])), (h1, .inl (G.2.1 1, 20, .inl (fun _ => 0)))]) (kX12_setByte_117 l G h2) dmX12_setByte [1] [0, 2] rfl rfl rfl dX12_end_49 zw774 rfl rfl (Nat.le_of_ble_eq_true rfl) (Nat.le_of_ble_eq_true rfl) (Nat.le_of_ble_eq_true rfl) (Nat.le_of_ble_eq_true rfl) (Nat.le_of_ble_eq_true rfl) (fun w hp => ?_)
                                          obtain rfl := hp
                                          refine z_iinc hC (pc := 52) (v := 20) (lv' := [(2, .int 20), (0, .ref h0), (1, .int x3)]) 0 dX12_end_52 rfl (by decide) (by decide) rfl ?_
                                          refine z_goto hC (pc := 55) 26 dX12_end_55 (by decide) ?_
                                          refine z_iload_n hC (pc := 26) 0 dX12_end_26 rfl rfl ?_
                                          refine z_iload_n hC (pc := 27) 2 dX12_end_27 rfl rfl ?_
                                          refine z_icmp_geT hC (pc := 28) 58 dX12_end_28 (by decide) (by simp only [Int32.lt_iff_toInt_lt, Int32.le_iff_toInt_le, ← Int32.toInt_inj, Int32.reduceToInt, Int32.zero_add] at hy1 hy2 c1 c2 c3 c4 c5 c6 c7 c8 c9 c10 c11 c12 c13 c14 c15 c16 c17 c18 c19 c20 ⊢; omega) ?_
                                          refine z_aload_n hC (pc := 58) 1 dX12_end_58 rfl rfl ?_
                                          refine z_dup hC (pc := 59) dX12_end_59 rfl ?_
                                          refine z_get hC (pc := 60) zf12 0 2 dX12_end_60 zw710 rfl rfl (kk := ?_)
                                          refine z_iload_n hC (pc := 63) 2 dX12_end_63 rfl rfl ?_
                                          refine z_iadd hC (pc := 64) (v := x3) dX12_end_64 (Int32.zero_add _) ?_
                                          refine z_put hC (pc := 65) zf12 0 2 [(h0, .inr (12, [.ref h1, .ref h2, .int x3, .ref g4, .ref g5, .ref g6, .ref g7, .ref g8, .ref g9, .ref g10, .ref g11, .ref g12, .int 0, .int 0, .int (-1), .int (-1), .int 0, .int 0, .int 0])), (h1, .inl (G.2.1 1, 20, .inl (fun _ => 0))), (h2, .inl (G.2.1 1, 4000, .inl (upd (upd (upd (upd (upd (upd (upd (upd (upd (upd (upd (upd (upd (upd (upd (upd (upd (upd (upd (upd (fun _ => 0) 0 0) 1 0) 2 0) 3 0) 4 0) 5 0) 6 0) 7 0) 8 0) 9 0) 10 0) 11 0) 12 0) 13 0) 14 0) 15 0) 16 0) 17 0) 18 0) 19 0)))] dX12_end_65 zw710 rfl rfl rfl rfl rfl (kk := ?_)
                                          refine z_aload_n hC (pc := 68) 1 dX12_end_68 rfl rfl ?_
                                          refine z_get hC (pc := 69) zf12 0 0 dX12_end_69 zw708 rfl rfl (kk := ?_)
                                          refine z_iconst hC (pc := 72) (v := 0) dX12_end_72 (by decide) ?_
                                          refine z_callSv hC (pc := 73) (k := 0) (n := 0) (As := [.ref h1, .int 0]) (wr := [(h0, .inr (12, [.ref h1, .ref h2, .int x3, .ref g4, .ref g5, .ref g6, .ref g7, .ref g8, .ref g9, .ref g10, .ref g11, .ref g12, .int 0, .int 0, .int (-1), .int (-1), .int 0, .int 0, .int 0])), (h2, .inl (G.2.1 1, 4000, .inl (upd (upd (upd (upd (upd (upd (upd (upd (upd (upd (upd (upd (upd (upd (upd (upd (upd (upd (upd (upd (fun _ => 0) 0 0) 1 0) 2 0) 3 0) 4 0) 5 0) 6 0) 7 0) 8 0) 9 0) 10 0) 11 0) 12 0) 13 0) 14 0) 15 0) 16 0) 17 0) 18 0) 19 0)))]) (kfill_b l G h1 20 (fun _ => 0) 0 (by decide)) dmJ7_fill_031fb [1] [0, 2] rfl rfl rfl dX12_end_73 zw784 rfl rfl (Nat.le_of_ble_eq_true rfl) (Nat.le_of_ble_eq_true rfl) (Nat.le_of_ble_eq_true rfl) (Nat.le_of_ble_eq_true rfl) (Nat.le_of_ble_eq_true rfl) (fun w hp => ?_)
                                          obtain rfl := hp
                                          refine z_aload_n hC (pc := 76) 1 dX12_end_76 rfl rfl ?_
                                          refine z_get hC (pc := 77) zf12 0 2 dX12_end_77 zw710 rfl rfl (kk := ?_)
                                          exact hR _ _ _ _ _ _ dX12_end_80 rfl (Nat.le_of_ble_eq_true rfl) (Nat.le_of_ble_eq_true rfl) rfl
