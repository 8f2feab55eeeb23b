theorem zw1107 : Cond.fieldLink "java/lang/String" 38 "java/lang/String" "COMPACT_STRINGS" "Z" ∈ zT := zin 1131 (by decide +kernel) (by decide +kernel)
theorem zw3802 : Cond.fieldLink "java/lang/String" 15 "java/lang/String" "coder" "B" ∈ zT := zin 3826 (by decide +kernel) (by decide +kernel)
theorem zw3801 : Cond.fieldLink "java/lang/String" 9 "java/lang/String" "value" "[B" ∈ zT := zin 3825 (by decide +kernel) (by decide +kernel)
theorem zw1103 : Cond.methodLink "java/lang/String" 335 ⟨"java/lang/String", "coder", "()B"⟩ ∈ zT := zin 1127 (by decide +kernel) (by decide +kernel)
theorem zw1106 : Cond.code ⟨"java/lang/String", "coder", "()B"⟩ prog_27_method_152_code 1 (Option.some Jvm.ClassFile.FieldType.byte) ∈ zT := zin 1130 (by decide +kernel) (by decide +kernel)
theorem zw21 : Cond.initialized "java/lang/String" ∈ zT := zin 45 (by decide +kernel) (by decide +kernel)
theorem zw1104 : Cond.instanceMethod ⟨"java/lang/String", "coder", "()B"⟩ ∈ zT := zin 1128 (by decide +kernel) (by decide +kernel)
theorem zw1105 : Cond.selects "java/lang/String" ⟨"java/lang/String", "coder", "()B"⟩ ⟨"java/lang/String", "coder", "()B"⟩ ∈ zT := zin 1129 (by decide +kernel) (by decide +kernel)
theorem zw1102 : Cond.code ⟨"java/lang/String", "length", "()I"⟩ prog_27_method_54_code 1 (Option.some Jvm.ClassFile.FieldType.int) ∈ zT := zin 1126 (by decide +kernel) (by decide +kernel)
theorem zw1100 : Cond.instanceMethod ⟨"java/lang/String", "length", "()I"⟩ ∈ zT := zin 1124 (by decide +kernel) (by decide +kernel)
theorem zw1101 : Cond.selects "java/lang/String" ⟨"java/lang/String", "length", "()I"⟩ ⟨"java/lang/String", "length", "()I"⟩ ∈ zT := zin 1125 (by decide +kernel) (by decide +kernel)
abbrev cJ0_coder_7d493 : ByteArray := prog_27_method_152_code
abbrev yJ0_coder_7d493 : MethodName := ⟨"java/lang/String", "coder", "()B"⟩
theorem dmJ0_coder_7d493 : zDv yJ0_coder_7d493 cJ0_coder_7d493 1 (some .byte) 0 := ⟨⟨⟨by decide +kernel, by decide +kernel, by decide +kernel⟩, zw1106, zw21⟩, zw1104, zw1105⟩
abbrev cJ0_length_8abf5 : ByteArray := prog_27_method_54_code
abbrev yJ0_length_8abf5 : MethodName := ⟨"java/lang/String", "length", "()I"⟩
theorem dmJ0_length_8abf5 : zDv yJ0_length_8abf5 cJ0_length_8abf5 1 (some .int) 0 := ⟨⟨⟨by decide +kernel, by decide +kernel, by decide +kernel⟩, zw1102, zw21⟩, zw1100, zw1101⟩
theorem dJ0_coder_7d493_0 : decode cJ0_coder_7d493 0 = .ok (.getstatic 38, 3) := by decide +kernel
theorem dJ0_coder_7d493_3 : decode cJ0_coder_7d493 3 = .ok (.ifCond .eq 10, 3) := by decide +kernel
theorem dJ0_coder_7d493_6 : decode cJ0_coder_7d493 6 = .ok (.aload_n 0, 1) := by decide +kernel
theorem dJ0_coder_7d493_7 : decode cJ0_coder_7d493 7 = .ok (.getfield 15, 3) := by decide +kernel
theorem dJ0_coder_7d493_10 : decode cJ0_coder_7d493 10 = .ok (.goto 4, 3) := by decide +kernel
theorem dJ0_coder_7d493_14 : decode cJ0_coder_7d493 14 = .ok (.ireturn, 1) := by decide +kernel
theorem dJ0_length_8abf5_0 : decode cJ0_length_8abf5 0 = .ok (.aload_n 0, 1) := by decide +kernel
theorem dJ0_length_8abf5_1 : decode cJ0_length_8abf5 1 = .ok (.getfield 9, 3) := by decide +kernel
theorem dJ0_length_8abf5_4 : decode cJ0_length_8abf5 4 = .ok (.arraylength, 1) := by decide +kernel
theorem dJ0_length_8abf5_5 : decode cJ0_length_8abf5 5 = .ok (.aload_n 0, 1) := by decide +kernel
theorem dJ0_length_8abf5_6 : decode cJ0_length_8abf5 6 = .ok (.invokevirtual 335, 3) := by decide +kernel
theorem dJ0_length_8abf5_9 : decode cJ0_length_8abf5 9 = .ok (.ishr, 1) := by decide +kernel
theorem dJ0_length_8abf5_10 : decode cJ0_length_8abf5 10 = .ok (.ireturn, 1) := by decide +kernel
theorem kcoder (l : Launch) (G : zG) {a v len : Nat} (hz : ∀ (A : Nat → Prop) (U : State) (H : Heap), zNh G.2.2 A U H → zStr a v len A U H) : zMi l G yJ0_coder_7d493 cJ0_coder_7d493 1 .byte 0 0 0 0 [.ref a] [] (fun r w => r = 0 ∧ w = []) := by
  refine zMi.intro (by decide) (Nat.le_of_ble_eq_true rfl) (fun X hC hR => ?_)
  refine z_getCOMPACT hC (pc := 0) dJ0_coder_7d493_0 zw1107 ?_
  refine z_if_eqF hC (pc := 3) 13 dJ0_coder_7d493_3 (by decide) (by decide) ?_
  refine z_aload_n hC (pc := 6) 0 dJ0_coder_7d493_6 rfl rfl ?_
  refine z_strCoder hC (pc := 7) hz dJ0_coder_7d493_7 zw3802 ?_
  refine z_goto hC (pc := 10) 14 dJ0_coder_7d493_10 (by decide) ?_
  exact hR _ _ _ _ _ _ dJ0_coder_7d493_14 rfl (Nat.le_of_ble_eq_true rfl) (Nat.le_of_ble_eq_true rfl) ⟨rfl, rfl⟩
theorem klength10 (l : Launch) (G : zG) {a v : Nat} (hz : ∀ (A : Nat → Prop) (U : State) (H : Heap), zNh G.2.2 A U H → zStr a v 10 A U H) : zMi l G yJ0_length_8abf5 cJ0_length_8abf5 1 .int 1 20 0 0 [.ref a] [] (fun r w => r = 10 ∧ w = []) := by
  refine zMi.intro (by decide) (Nat.le_of_ble_eq_true rfl) (fun X hC hR => ?_)
  refine z_aload_n hC (pc := 0) 0 dJ0_length_8abf5_0 rfl rfl ?_
  refine z_strVal hC (pc := 1) hz dJ0_length_8abf5_1 zw3801 ?_
  refine z_strLen hC (pc := 4) (x := 10) hz dJ0_length_8abf5_4 rfl ?_
  refine z_aload_n hC (pc := 5) 0 dJ0_length_8abf5_5 rfl rfl ?_
  refine z_callStr hC (pc := 6) hz (kcoder l G hz) dmJ0_coder_7d493 rfl dJ0_length_8abf5_6 zw1103 (Nat.le_of_ble_eq_true rfl) (Nat.le_of_ble_eq_true rfl) (Nat.le_of_ble_eq_true rfl) (Nat.le_of_ble_eq_true rfl) (Nat.le_of_ble_eq_true rfl) ?_
  refine z_ishr hC (pc := 9) (v := 10) dJ0_length_8abf5_9 (by decide) ?_
  exact hR _ _ _ _ _ _ dJ0_length_8abf5_10 rfl (Nat.le_of_ble_eq_true rfl) (Nat.le_of_ble_eq_true rfl) ⟨rfl, rfl⟩
theorem klength6 (l : Launch) (G : zG) {a v : Nat} (hz : ∀ (A : Nat → Prop) (U : State) (H : Heap), zNh G.2.2 A U H → zStr a v 6 A U H) : zMi l G yJ0_length_8abf5 cJ0_length_8abf5 1 .int 1 20 0 0 [.ref a] [] (fun r w => r = 6 ∧ w = []) := by
  refine zMi.intro (by decide) (Nat.le_of_ble_eq_true rfl) (fun X hC hR => ?_)
  refine z_aload_n hC (pc := 0) 0 dJ0_length_8abf5_0 rfl rfl ?_
  refine z_strVal hC (pc := 1) hz dJ0_length_8abf5_1 zw3801 ?_
  refine z_strLen hC (pc := 4) (x := 6) hz dJ0_length_8abf5_4 rfl ?_
  refine z_aload_n hC (pc := 5) 0 dJ0_length_8abf5_5 rfl rfl ?_
  refine z_callStr hC (pc := 6) hz (kcoder l G hz) dmJ0_coder_7d493 rfl dJ0_length_8abf5_6 zw1103 (Nat.le_of_ble_eq_true rfl) (Nat.le_of_ble_eq_true rfl) (Nat.le_of_ble_eq_true rfl) (Nat.le_of_ble_eq_true rfl) (Nat.le_of_ble_eq_true rfl) ?_
  refine z_ishr hC (pc := 9) (v := 6) dJ0_length_8abf5_9 (by decide) ?_
  exact hR _ _ _ _ _ _ dJ0_length_8abf5_10 rfl (Nat.le_of_ble_eq_true rfl) (Nat.le_of_ble_eq_true rfl) ⟨rfl, rfl⟩

