/-! A loop, by hand: Imports.wasRead. The measure is what the local i lacks to 2^31. -/
theorem zw1 : Cond.initialized "TemplateHouse" ∈ zT := zsub1 1 (by decide +kernel) (by decide +kernel)
theorem zw846 : Cond.code ⟨"TemplateHouse", "get", "([II)I"⟩ prog_1_method_30_code 2 (Option.some Jvm.ClassFile.FieldType.int) ∈ zT := zsub4 126 rfl rfl
theorem zw845 : Cond.static ⟨"TemplateHouse", "get", "([II)I"⟩ ∈ zT := zsub4 125 (by decide +kernel) (by decide +kernel)
theorem zw992 : Cond.methodLinkNest "TemplateHouse$Imports" 35 ⟨"TemplateHouse", "get", "([II)I"⟩ "TemplateHouse" ∈ zNest := zsubN5 32 (by decide +kernel) (by decide +kernel)
theorem zw212 : Cond.fieldLink "TemplateHouse$Imports" 22 "TemplateHouse$Imports" "read" "[I" ∈ zT := zsub1 212 (by decide +kernel) (by decide +kernel)
theorem zw214 : Cond.fieldLink "TemplateHouse$Imports" 25 "TemplateHouse$Imports" "reads" "I" ∈ zT := zsub1 214 (by decide +kernel) (by decide +kernel)
theorem dmX12_get : zDs yX12_get prog_1_method_30_code 2 (some .int) 2 := ⟨⟨⟨by decide +kernel, by decide +kernel, by decide +kernel⟩, zw846, zw1⟩, zw845⟩
abbrev yX4_wasRead : MethodName := ⟨"TemplateHouse$Imports", "wasRead", "(I)Z"⟩
theorem dX4_wasRead_0 : decode prog_6_method_3_code 0 = .ok (.iconst 0, 1) := by decide +kernel
theorem dX4_wasRead_1 : decode prog_6_method_3_code 1 = .ok (.istore_n 2, 1) := by decide +kernel
theorem dX4_wasRead_2 : decode prog_6_method_3_code 2 = .ok (.iload_n 2, 1) := by decide +kernel
theorem dX4_wasRead_3 : decode prog_6_method_3_code 3 = .ok (.aload_n 0, 1) := by decide +kernel
theorem dX4_wasRead_4 : decode prog_6_method_3_code 4 = .ok (.getfield 25, 3) := by decide +kernel
theorem dX4_wasRead_7 : decode prog_6_method_3_code 7 = .ok (.if_icmp .ge 23, 3) := by decide +kernel
theorem dX4_wasRead_10 : decode prog_6_method_3_code 10 = .ok (.aload_n 0, 1) := by decide +kernel
theorem dX4_wasRead_11 : decode prog_6_method_3_code 11 = .ok (.getfield 22, 3) := by decide +kernel
theorem dX4_wasRead_14 : decode prog_6_method_3_code 14 = .ok (.iload_n 2, 1) := by decide +kernel
theorem dX4_wasRead_15 : decode prog_6_method_3_code 15 = .ok (.invokestatic 35, 3) := by decide +kernel
theorem dX4_wasRead_18 : decode prog_6_method_3_code 18 = .ok (.iload_n 1, 1) := by decide +kernel
theorem dX4_wasRead_19 : decode prog_6_method_3_code 19 = .ok (.if_icmp .ne 5, 3) := by decide +kernel
theorem dX4_wasRead_22 : decode prog_6_method_3_code 22 = .ok (.iconst 1, 1) := by decide +kernel
theorem dX4_wasRead_23 : decode prog_6_method_3_code 23 = .ok (.ireturn, 1) := by decide +kernel
theorem dX4_wasRead_24 : decode prog_6_method_3_code 24 = .ok (.iinc 2 1, 3) := by decide +kernel
theorem dX4_wasRead_27 : decode prog_6_method_3_code 27 = .ok (.goto (-25), 3) := by decide +kernel
theorem dX4_wasRead_30 : decode prog_6_method_3_code 30 = .ok (.iconst 0, 1) := by decide +kernel
theorem dX4_wasRead_31 : decode prog_6_method_3_code 31 = .ok (.ireturn, 1) := by decide +kernel
theorem kX4_wasRead (l : Launch) (G : zG) (T : tT) (hst : l.stackTraces = false) {a b q : Nat} {f : Int32} {t0 t1 t2 t3 : Value → Prop} (ha : T[q]? = some (a, tO 4 [t0, t1, t2, t3, tR [b], tI])) (hb : tInts G T b) : tMi l G T yX4_wasRead prog_6_method_3_code 3 .boolean [] 1 40 0 0 [.ref a, .int f] (fun _ => True) := by
  refine tMi.intro hst rfl (Nat.le_of_ble_eq_true rfl) ?_
  intro X hC hR hO hX ws hw
  have loop : ∀ (d : Nat) (i : Int32) (ws : va_W), tW T ws → (2 ^ 31 - i.toInt).toNat ≤ d → zS X G 3 ws [(2, .int i), (0, .ref a), (1, .int f)] 0 0 2 [] := by
    intro d
    induction d with
    | zero =>
      intro i ws hw hd
      have := i.toInt_lt
      omega
    | succ d ih =>
      intro i ws hw hd
      refine z_iload_n hC (pc := 2) (i := 2) 0 dX4_wasRead_2 rfl rfl ?_
      refine z_aload_n hC (pc := 3) (i := 0) 1 dX4_wasRead_3 rfl rfl ?_
      refine t_get hC hw (pc := 4) zf4 5 ha rfl dX4_wasRead_4 zw214 (kk := fun v hv => ?_)
      obtain ⟨x, rfl⟩ := hv
      refine z_icmp_ge hC (pc := 7) 30 dX4_wasRead_7 (by decide) (fun _ => ?_) (fun h1 => ?_)
      · refine z_iconst hC (pc := 30) (v := 0) dX4_wasRead_30 (by decide) ?_
        exact hR _ _ _ _ 31 _ dX4_wasRead_31 (by decide) (Nat.le_refl _) (Nat.le_refl _) ⟨hw, trivial⟩
      refine z_aload_n hC (pc := 10) (i := 0) 1 dX4_wasRead_10 rfl rfl ?_
      refine t_get hC hw (pc := 11) zf4 4 ha rfl dX4_wasRead_11 zw212 (kk := fun v hv => ?_)
      obtain ⟨b', hb', rfl⟩ := hv
      obtain rfl : b' = b := by simpa using hb'
      refine z_iload_n hC (pc := 14) (i := 2) 0 dX4_wasRead_14 rfl rfl ?_
      refine t_callSNi hC hw (pc := 15) (As := [.ref b', .int i]) (kX12_get l G T hst hb) dmX12_get dX4_wasRead_15 zw992 rfl rfl (Nat.le_refl _) (Nat.le_refl _) (Nat.le_of_ble_eq_true rfl) (Nat.le_of_ble_eq_true rfl) (Nat.le_of_ble_eq_true rfl) (fun _ _ _ h => nomatch h) (fun r ws hw _ => ?_)
      refine z_iload_n hC (pc := 18) (i := 1) 2 dX4_wasRead_18 rfl rfl ?_
      refine z_icmp_ne hC (pc := 19) 24 dX4_wasRead_19 (by decide) (fun _ => ?_) (fun _ => ?_)
      · refine z_iinc hC (pc := 24) (lv' := [(2, .int (i + 1)), (0, .ref a), (1, .int f)]) 0 dX4_wasRead_24 rfl rfl (by decide) rfl ?_
        refine z_goto hC (pc := 27) 2 dX4_wasRead_27 (by decide) ?_
        refine ih _ ws hw ?_
        rw [Int32.le_iff_toInt_le] at h1
        have hx := x.toInt_lt
        have e : (i + 1).toInt = i.toInt + 1 := by
          have h0 := i.le_toInt
          rw [Int32.toInt_add, show (1 : Int32).toInt = 1 from by decide]
          exact Int.bmod_eq_of_le (by omega) (by omega)
        omega
      · refine z_iconst hC (pc := 22) (v := 1) dX4_wasRead_22 (by decide) ?_
        exact hR _ _ _ _ 23 _ dX4_wasRead_23 (by decide) (Nat.le_refl _) (Nat.le_refl _) ⟨hw, trivial⟩
  refine z_iconst hC (pc := 0) (v := 0) dX4_wasRead_0 (by decide) ?_
  refine z_istore_n hC (pc := 1) (lv' := [(2, .int 0), (0, .ref a), (1, .int f)]) dX4_wasRead_1 rfl (by decide) rfl ?_
  exact loop _ 0 ws hw (Nat.le_refl _)
