/-! First typed methods of the class, by hand: the array looked at before it is used. -/
abbrev yX12_get : MethodName := ⟨"TemplateHouse", "get", "([II)I"⟩
abbrev yX12_set : MethodName := ⟨"TemplateHouse", "set", "([III)V"⟩
theorem dX12_get_0 : decode prog_1_method_30_code 0 = .ok (.iload_n 1, 1) := by decide +kernel
theorem dX12_get_1 : decode prog_1_method_30_code 1 = .ok (.ifCond .lt 15, 3) := by decide +kernel
theorem dX12_get_4 : decode prog_1_method_30_code 4 = .ok (.iload_n 1, 1) := by decide +kernel
theorem dX12_get_5 : decode prog_1_method_30_code 5 = .ok (.aload_n 0, 1) := by decide +kernel
theorem dX12_get_6 : decode prog_1_method_30_code 6 = .ok (.arraylength, 1) := by decide +kernel
theorem dX12_get_7 : decode prog_1_method_30_code 7 = .ok (.if_icmp .ge 9, 3) := by decide +kernel
theorem dX12_get_10 : decode prog_1_method_30_code 10 = .ok (.aload_n 0, 1) := by decide +kernel
theorem dX12_get_11 : decode prog_1_method_30_code 11 = .ok (.iload_n 1, 1) := by decide +kernel
theorem dX12_get_12 : decode prog_1_method_30_code 12 = .ok (.iaload, 1) := by decide +kernel
theorem dX12_get_13 : decode prog_1_method_30_code 13 = .ok (.goto 4, 3) := by decide +kernel
theorem dX12_get_16 : decode prog_1_method_30_code 16 = .ok (.iconst 0, 1) := by decide +kernel
theorem dX12_get_17 : decode prog_1_method_30_code 17 = .ok (.ireturn, 1) := by decide +kernel
theorem dX12_set_0 : decode prog_1_method_31_code 0 = .ok (.iload_n 1, 1) := by decide +kernel
theorem dX12_set_1 : decode prog_1_method_31_code 1 = .ok (.ifCond .lt 13, 3) := by decide +kernel
theorem dX12_set_4 : decode prog_1_method_31_code 4 = .ok (.iload_n 1, 1) := by decide +kernel
theorem dX12_set_5 : decode prog_1_method_31_code 5 = .ok (.aload_n 0, 1) := by decide +kernel
theorem dX12_set_6 : decode prog_1_method_31_code 6 = .ok (.arraylength, 1) := by decide +kernel
theorem dX12_set_7 : decode prog_1_method_31_code 7 = .ok (.if_icmp .ge 7, 3) := by decide +kernel
theorem dX12_set_10 : decode prog_1_method_31_code 10 = .ok (.aload_n 0, 1) := by decide +kernel
theorem dX12_set_11 : decode prog_1_method_31_code 11 = .ok (.iload_n 1, 1) := by decide +kernel
theorem dX12_set_12 : decode prog_1_method_31_code 12 = .ok (.iload_n 2, 1) := by decide +kernel
theorem dX12_set_13 : decode prog_1_method_31_code 13 = .ok (.iastore, 1) := by decide +kernel
theorem dX12_set_14 : decode prog_1_method_31_code 14 = .ok (.return_, 1) := by decide +kernel
/-- an array of ints, of some length -/
def tInts (G : zG) (T : tT) (a : Nat) : Prop := ∃ N : Nat, N < 2 ^ 31 ∧ tHas T a (tAI (G.2.1 0) N (fun _ _ => True))
theorem t_inB {i : Int32} {N : Nat} (hN : N < 2 ^ 31) (h0 : ¬ i < 0) (h1 : ¬ Int32.ofNat N ≤ i) : vp_in i N := by
  rw [vp_in_iff]
  rw [Int32.lt_iff_toInt_lt] at h0
  rw [Int32.le_iff_toInt_le] at h1
  have e0 : (0 : Int32).toInt = 0 := by decide
  have e1 : (Int32.ofNat N).toInt = N := nI_toInt hN
  omega
theorem kX12_get (l : Launch) (G : zG) (T : tT) (hst : l.stackTraces = false) {a : Nat} {i : Int32} (ha : tInts G T a) : tMi l G T yX12_get prog_1_method_30_code 2 .int [] 0 0 0 0 [.ref a, .int i] (fun _ => True) := by
  refine tMi.intro hst rfl (Nat.le_of_ble_eq_true rfl) ?_
  intro X hC hR hO hX ws hw
  obtain ⟨N, hN, hq⟩ := ha
  have hz : ∀ lv k n, k ≤ 0 → n ≤ 0 → zS X G 2 ws lv k n 16 [] := fun lv k n h1 h2 => by
    refine z_iconst hC (pc := 16) (v := 0) dX12_get_16 (by decide) ?_
    exact hR _ _ _ _ 17 _ dX12_get_17 rfl h1 h2 ⟨hw, trivial⟩
  refine z_iload_n hC (pc := 0) (i := 1) 1 dX12_get_0 rfl rfl ?_
  refine z_if_lt hC (pc := 1) 16 dX12_get_1 (by decide) (fun _ => hz _ _ _ (Nat.le_refl _) (Nat.le_refl _)) (fun h0 => ?_)
  refine z_iload_n hC (pc := 4) (i := 1) 1 dX12_get_4 rfl rfl ?_
  refine z_aload_n hC (pc := 5) (i := 0) 0 dX12_get_5 rfl rfl ?_
  obtain ⟨q, hq'⟩ := hq
  obtain ⟨e, he, f, rfl, -⟩ := hw.cell hq'
  refine z_alen0 hC (pc := 6) q dX12_get_6 he rfl ?_
  refine z_icmp_ge hC (pc := 7) 16 dX12_get_7 (by decide) (fun _ => hz _ _ _ (Nat.le_refl _) (Nat.le_refl _)) (fun h1 => ?_)
  refine z_aload_n hC (pc := 10) (i := 0) 0 dX12_get_10 rfl rfl ?_
  refine z_iload_n hC (pc := 11) (i := 1) 1 dX12_get_11 rfl rfl ?_
  refine t_iald hC hw (pc := 12) ⟨q, hq'⟩ dX12_get_12 (t_inB hN h0 h1) (fun v _ => ?_)
  refine z_goto hC (pc := 13) 17 dX12_get_13 (by decide) ?_
  exact hR _ _ _ _ 17 _ dX12_get_17 rfl (Nat.le_refl _) (Nat.le_refl _) ⟨hw, trivial⟩
theorem kX12_set (l : Launch) (G : zG) (T : tT) (hst : l.stackTraces = false) {a : Nat} {i v : Int32} (ha : tInts G T a) : tMv l G T yX12_set prog_1_method_31_code 3 [] 0 0 0 0 [.ref a, .int i, .int v] := by
  refine tMv.intro hst rfl (Nat.le_of_ble_eq_true rfl) ?_
  intro X hC hR hO hX ws hw
  obtain ⟨N, hN, hq⟩ := ha
  have hz : ∀ ws, tW T ws → ∀ lv k n, k ≤ 0 → n ≤ 0 → zS X G 3 ws lv k n 14 [] := fun ws hw lv k n h1 h2 => hR _ _ _ _ 14 dX12_set_14 h1 h2 hw
  refine z_iload_n hC (pc := 0) (i := 1) 1 dX12_set_0 rfl rfl ?_
  refine z_if_lt hC (pc := 1) 14 dX12_set_1 (by decide) (fun _ => hz _ hw _ _ _ (Nat.le_refl _) (Nat.le_refl _)) (fun h0 => ?_)
  refine z_iload_n hC (pc := 4) (i := 1) 1 dX12_set_4 rfl rfl ?_
  refine z_aload_n hC (pc := 5) (i := 0) 0 dX12_set_5 rfl rfl ?_
  obtain ⟨q, hq'⟩ := hq
  obtain ⟨e, he, f, rfl, -⟩ := hw.cell hq'
  refine z_alen0 hC (pc := 6) q dX12_set_6 he rfl ?_
  refine z_icmp_ge hC (pc := 7) 14 dX12_set_7 (by decide) (fun _ => hz _ hw _ _ _ (Nat.le_refl _) (Nat.le_refl _)) (fun h1 => ?_)
  refine z_aload_n hC (pc := 10) (i := 0) 0 dX12_set_10 rfl rfl ?_
  refine z_iload_n hC (pc := 11) (i := 1) 1 dX12_set_11 rfl rfl ?_
  refine z_iload_n hC (pc := 12) (i := 2) 2 dX12_set_12 rfl rfl ?_
  refine t_iast hC hw (pc := 13) ⟨q, hq'⟩ dX12_set_13 (t_inB hN h0 h1) trivial (fun ws hw => ?_)
  exact hz ws hw _ _ _ (Nat.le_refl _) (Nat.le_refl _)
