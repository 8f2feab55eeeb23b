/-! THE CLAIM OUT OF ONE WALK OF THE LAW'S BODY. Your part is whole_start (and what it stands on); all else here is the same for every law, but numbers. -/
def R_law : String := "TemplateHouseLaw"
def lw_P (b : Addr) (xs : List Int32) (args : Array Value) (s : State) : Prop := args = #[.ref b] ∧ s.IntsAt b xs ∧ xs.length ≤ 6 ∧ (Jvm.Cond.and given_1 narrow_1).before args s = true
def lw_Q (_ : Array Value) (s : State) (o : Outcome) (t : State) : Prop := o = .returned (some (.int 1)) ∧ Framed s o t [] 462046 7716100
def lw_Z (below : List Frame) (a : Array Value) (s : State) : State → Prop := fun t => ∃ o, t.status = .running ∧ Ended t below o ∧ lw_Q a s o t
/-- the law's own end, with 1 on the stack, nothing written that was there before, its room as the claim has it -/
theorem lw_ret {p : Program} {l : Launch} {e : Env} {s : State} {m : MethodId} {below : List Frame} {meth : Method} {c : Code} {b : Nat} (hx : p.tables.exec = Jvm.exec) (hb : c.code = code) (hr : meth.sig.returnType = ret) (hlocks : meth.locks = false) {pc : Nat} {H : Heap} {ls : Array Slot} (hdg : decode code pc = .ok (.ireturn, 1)) : W p l e room_1 s m #[Value.ref b] below meth c H [] 462046 7716100 (lw_Z below #[Value.ref b] s) (F0 m pc ls [.int 1]) := by
  intro T hT X
  obtain ⟨fs, hret, hrun, hended, hW, hframe⟩ := X.leave (v := some (.int 1)) (hlocks := hlocks) (fun h => by rw [hr] at h; cases h)
  have hmeth' : T.vm.method? m = some meth := X.method'
  refine ⟨T.setFrames fs, ?_, .returned (some (.int 1)), hrun, hended, rfl, ⟨_, rfl⟩, hW, hframe⟩
  jvm_step X.here [X.here.top, hx, hb, hdg, hmeth', hr, ret, narrow_b1]
  (try refine ⟨rfl, ?_⟩); (try refine ⟨rfl, ?_⟩)
  first | (intro acts; rw [hret _ acts rfl rfl rfl]) | rw [hret _ _ rfl rfl rfl]
  exact Steps.refl _
/-- what holds at the law's entry: the machine, the code, the tables' words (any of lw_tbl by 'hts w (by decide +kernel)'), the script of L ints xs at the cell b, what the Statement gives of the start (any of its parts by flat_of_before) -/
def lw_At (p : Program) (s : State) (m : MethodId) (meth : Method) (c : Code) (b L : Nat) (xs : Nat → Int32) : Prop :=
  p.tables.exec = Jvm.exec ∧ c.code = code ∧ meth.sig.returnType = ret ∧ c.maxLocals = 7 ∧ s.vm.findClass R_law = some m.cls ∧ (∀ w ∈ lw_tbl, w.before #[Value.ref b] s = true) ∧ va_X b L xs s s.heap ∧ b < s.heap.size ∧ meth.locks = false ∧ (Jvm.Cond.and given_1 narrow_1).before #[Value.ref b] s = true ∧ meth.name = "law"

theorem zG_start {s : State} {b : Nat} (hts : ∀ w ∈ lw_tbl, w.before #[Value.ref b] s = true) (hgv : (Jvm.Cond.and given_1 narrow_1).before #[Value.ref b] s = true) : ∃ G : zG, zK G (fun q => s.heap.size ≤ q) s s.heap := by
  have hs := flat_of_before _ hgv
  have hA : ∀ a : Nat, a < s.heap.size → ¬ (fun q : Nat => s.heap.size ≤ q) a := fun a h => Nat.not_le.mpr h
  have htz : ∀ w ∈ zT, w.before #[Value.ref b] s = true := fun w hw => hts w (zT_in hw)
  have hcl : ∀ k : Nat, ∃ z : ClassId × (Nat → Nat), ∀ q, zcl[k]? = some q → u_Kn s q.1 q.2.1 q.2.2 z.1 z.2 := by
    intro k
    match k with
    | 0 =>
      obtain ⟨c, i, h⟩ := u_known (C := RX0) (T := TX0) (N := 5) (n := 5) htz zf0.2.1 (hts (.instantiable RX0 5) (List.mem_append_right _ (List.mem_of_getElem? (i := 443) (by decide +kernel))))
      exact ⟨(c, i), fun q hq => by cases hq; exact h⟩
    | 1 =>
      obtain ⟨c, i, h⟩ := u_known (C := RX1) (T := TX1) (N := 19) (n := 19) htz zf1.2.1 (hts (.instantiable RX1 19) (List.mem_append_right _ (List.mem_of_getElem? (i := 318) (by decide +kernel))))
      exact ⟨(c, i), fun q hq => by cases hq; exact h⟩
    | 2 =>
      obtain ⟨c, i, h⟩ := u_known (C := RX2) (T := TX2) (N := 17) (n := 17) htz zf2.2.1 (hts (.instantiable RX2 17) (List.mem_append_right _ (List.mem_of_getElem? (i := 163) (by decide +kernel))))
      exact ⟨(c, i), fun q hq => by cases hq; exact h⟩
    | 3 =>
      obtain ⟨c, i, h⟩ := u_known (C := RX3) (T := TX3) (N := 20) (n := 20) htz zf3.2.1 (hts (.instantiable RX3 20) (List.mem_append_right _ (List.mem_of_getElem? (i := 495) (by decide +kernel))))
      exact ⟨(c, i), fun q hq => by cases hq; exact h⟩
    | 4 =>
      obtain ⟨c, i, h⟩ := u_known (C := RX4) (T := TX4) (N := 6) (n := 6) htz zf4.2.1 (hts (.instantiable RX4 6) (List.mem_append_right _ (List.mem_of_getElem? (i := 201) (by decide +kernel))))
      exact ⟨(c, i), fun q hq => by cases hq; exact h⟩
    | 5 =>
      obtain ⟨c, i, h⟩ := u_known (C := RX5) (T := TX5) (N := 21) (n := 21) htz zf5.2.1 (hts (.instantiable RX5 21) (List.mem_append_right _ (List.mem_of_getElem? (i := 465) (by decide +kernel))))
      exact ⟨(c, i), fun q hq => by cases hq; exact h⟩
    | 6 =>
      obtain ⟨c, i, h⟩ := u_known (C := RX6) (T := TX6) (N := 6) (n := 6) htz zf6.2.1 (hts (.instantiable RX6 6) (List.mem_append_right _ (List.mem_of_getElem? (i := 169) (by decide +kernel))))
      exact ⟨(c, i), fun q hq => by cases hq; exact h⟩
    | 7 =>
      obtain ⟨c, i, h⟩ := u_known (C := RX7) (T := TX7) (N := 12) (n := 12) htz zf7.2.1 (hts (.instantiable RX7 12) (List.mem_append_right _ (List.mem_of_getElem? (i := 110) (by decide +kernel))))
      exact ⟨(c, i), fun q hq => by cases hq; exact h⟩
    | 8 =>
      obtain ⟨c, i, h⟩ := u_known (C := RX8) (T := TX8) (N := 14) (n := 14) htz zf8.2.1 (hts (.instantiable RX8 14) (List.mem_append_right _ (List.mem_of_getElem? (i := 41) (by decide +kernel))))
      exact ⟨(c, i), fun q hq => by cases hq; exact h⟩
    | 9 =>
      obtain ⟨c, i, h⟩ := u_known (C := RX9) (T := TX9) (N := 3) (n := 3) htz zf9.2.1 (hts (.instantiable RX9 3) (List.mem_append_right _ (List.mem_of_getElem? (i := 473) (by decide +kernel))))
      exact ⟨(c, i), fun q hq => by cases hq; exact h⟩
    | 10 =>
      obtain ⟨c, i, h⟩ := u_known (C := RX10) (T := TX10) (N := 17) (n := 17) htz zf10.2.1 (hts (.instantiable RX10 17) (List.mem_append_right _ (List.mem_of_getElem? (i := 325) (by decide +kernel))))
      exact ⟨(c, i), fun q hq => by cases hq; exact h⟩
    | 11 =>
      obtain ⟨c, i, h⟩ := u_known (C := RX11) (T := TX11) (N := 16) (n := 16) htz zf11.2.1 (hts (.instantiable RX11 16) (List.mem_append_right _ (List.mem_of_getElem? (i := 572) (by decide +kernel))))
      exact ⟨(c, i), fun q hq => by cases hq; exact h⟩
    | 12 =>
      obtain ⟨c, i, h⟩ := u_known (C := RX12) (T := TX12) (N := 19) (n := 19) htz zf12.2.1 (hts (.instantiable RX12 19) (List.mem_append_right _ (List.mem_of_getElem? (i := 31) (by decide +kernel))))
      exact ⟨(c, i), fun q hq => by cases hq; exact h⟩
    | 13 =>
      obtain ⟨c, i, h⟩ := u_known (C := RX13) (T := TX13) (N := 39) (n := 39) htz zf13.2.1 (hts (.instantiable RX13 39) (List.mem_append_right _ (List.mem_of_getElem? (i := 2302) (by decide +kernel))))
      exact ⟨(c, i), fun q hq => by cases hq; exact h⟩
    | 14 =>
      obtain ⟨c, i, h⟩ := u_known (C := RX14) (T := TX14) (N := 139) (n := 139) htz zf14.2.1 (hts (.instantiable RX14 139) (List.mem_append_right _ (List.mem_of_getElem? (i := 2294) (by decide +kernel))))
      exact ⟨(c, i), fun q hq => by cases hq; exact h⟩
    | k + 15 =>
      obtain ⟨c, i, -⟩ := u_known (C := RX0) (T := TX0) (N := 5) (n := 5) htz zf0.2.1 (hts (.instantiable RX0 5) (List.mem_append_right _ (List.mem_of_getElem? (i := 443) (by decide +kernel))))
      exact ⟨(c, i), fun q hq => by simp [zcl] at hq⟩
  obtain ⟨d, hd⟩ := Classical.axiomOfChoice hcl
  obtain ⟨cI, kI, pI, fI, gI, hI⟩ := Cond.arrayClass_spec (hts (.arrayClass .int) (List.mem_append_right _ (List.mem_of_getElem? (i := 107) (by decide +kernel))))
  obtain ⟨cB, kB, pB, fB, gB, hB⟩ := Cond.arrayClass_spec (hts (.arrayClass .byte) (List.mem_append_right _ (List.mem_of_getElem? (i := 106) (by decide +kernel))))
  obtain ⟨cL, kL, pL, fL, gL, hL⟩ := Cond.arrayClass_spec (hts (.arrayClass .long) (List.mem_append_right _ (List.mem_of_getElem? (i := 108) (by decide +kernel))))
  obtain ⟨cZ, kZ, pZ, fZ, gZ, hZ⟩ := Cond.arrayClass_spec (hts (.arrayClass .boolean) (List.mem_append_right _ (List.mem_of_getElem? (i := 2464) (by decide +kernel))))
  have hoB : (Cond.arrayOver (.array .byte)).before #[Value.ref b] s = true := hts _ (List.mem_append_right _ (List.mem_of_getElem? (i := 39) (by decide +kernel)))
  have hoG : (Cond.arrayOver (.object "TemplateHouseModel$Group")).before #[Value.ref b] s = true := hts _ (List.mem_append_right _ (List.mem_of_getElem? (i := 2301) (by decide +kernel)))
  obtain ⟨pBB, cBB, kBB, -, -, gBB, hBB, fBB⟩ := Jvm.Stand.arrayOver_specB hoB
  obtain ⟨pG, cG, kG, eG, -, gG, hG, fG⟩ := Cond.arrayOver_spec hoG
  obtain ⟨tT, eT, hT⟩ := va_Tof (args := #[Value.ref b]) (s := s) (tm := .static "TemplateHouse$Names" "TURN" "[B") (ty := .byte) (N := 2) (f := fun j => .int (upd (upd (fun _ => 0) 0 105) 1 48 j)) (A := fun q : Nat => s.heap.size ≤ q) (by decide) (hs _ (by decide +kernel)) (va_eqt (hs (Cond.eq (.length (.static "TemplateHouse$Names" "TURN" "[B")) (.int 2)) (by decide +kernel))) (fun j hj => by
    match j, hj with
    | 0, _ => exact va_eqt (hs (Cond.eq (.elem (.static "TemplateHouse$Names" "TURN" "[B") (.int 0)) (.int 105)) (by decide +kernel))
    | 1, _ => exact va_eqt (hs (Cond.eq (.elem (.static "TemplateHouse$Names" "TURN" "[B") (.int 1)) (.int 48)) (by decide +kernel))
    | j + 2, h => exact absurd h (by omega)) hA
  have hZT := va_Zof (hts (.laysStatic "TemplateHouse$Names" "TURN" "[B") (List.mem_append_right _ (List.mem_of_getElem? (i := 953) (by decide +kernel)))) (hts (.initialized "TemplateHouse$Names") (List.mem_append_right _ (List.mem_of_getElem? (i := 5) (by decide +kernel)))) eT hA
  have hZC := va_Zof (hts (.laysStatic "java/lang/String" "COMPACT_STRINGS" "Z") (List.mem_append_right _ (List.mem_of_getElem? (i := 1108) (by decide +kernel)))) (hts (.initialized "java/lang/String") (List.mem_append_right _ (List.mem_of_getElem? (i := 21) (by decide +kernel)))) (va_eqi (z := 1) (hs _ (by decide +kernel))) hA
  obtain ⟨aK0, aV0, hV0, eV0⟩ := vk_Sof (args := #[Value.ref b]) (s := s) (N := 1) (tm := fun _ => (.string "TemplateHouse$FileReader" 144)) (len := [10]) (byt := [[100, 101, 108, 105, 109, 105, 116, 101, 114, 115]]) (A := fun q : Nat => s.heap.size ≤ q) (fun i hi => by have hi0 : i = 0 := (by omega); subst hi0; decide)
    (fun i hi => hs _ (by decide +kernel)) (fun i hi => hs _ (by decide +kernel)) (fun i hi => hs _ (by decide +kernel)) (fun i hi => by
      obtain rfl : i = 0 := by omega
      exact hs (Cond.eq (.length (.field (.string "TemplateHouse$FileReader" 144) "java/lang/String" "value" "[B")) (.int 10)) (by decide +kernel)) (fun i hi j hj => by
      obtain rfl : i = 0 := by omega
      exact hs _ ((by decide +kernel : ∀ j : Nat, j < 10 → Cond.eq (.elem (.field (.string "TemplateHouse$FileReader" 144) "java/lang/String" "value" "[B") (.int (Int32.ofNat j))) (.int (([100, 101, 108, 105, 109, 105, 116, 101, 114, 115] : List Int32).getD j 0)) ∈ flatC (Jvm.Cond.and given_1 narrow_1)) j hj)) (fun i j hi hj h => absurd (show i = j by omega) h) hA
  obtain ⟨aK1, aV1, hV1, eV1⟩ := vk_Sof (args := #[Value.ref b]) (s := s) (N := 1) (tm := fun _ => (.string "TemplateHouse$FileReader" 163)) (len := [6]) (byt := [[105, 109, 112, 111, 114, 116]]) (A := fun q : Nat => s.heap.size ≤ q) (fun i hi => by have hi0 : i = 0 := (by omega); subst hi0; decide)
    (fun i hi => hs _ (by decide +kernel)) (fun i hi => hs _ (by decide +kernel)) (fun i hi => hs _ (by decide +kernel)) (fun i hi => by
      obtain rfl : i = 0 := by omega
      exact hs (Cond.eq (.length (.field (.string "TemplateHouse$FileReader" 163) "java/lang/String" "value" "[B")) (.int 6)) (by decide +kernel)) (fun i hi j hj => by
      obtain rfl : i = 0 := by omega
      exact hs _ ((by decide +kernel : ∀ j : Nat, j < 6 → Cond.eq (.elem (.field (.string "TemplateHouse$FileReader" 163) "java/lang/String" "value" "[B") (.int (Int32.ofNat j))) (.int (([105, 109, 112, 111, 114, 116] : List Int32).getD j 0)) ∈ flatC (Jvm.Cond.and given_1 narrow_1)) j hj)) (fun i j hi hj h => absurd (show i = j by omega) h) hA
  obtain ⟨aK2, aV2, hV2, eV2⟩ := vk_Sof (args := #[Value.ref b]) (s := s) (N := 1) (tm := fun _ => (.string "TemplateHouseModel" 311)) (len := [10]) (byt := [[100, 101, 108, 105, 109, 105, 116, 101, 114, 115]]) (A := fun q : Nat => s.heap.size ≤ q) (fun i hi => by have hi0 : i = 0 := (by omega); subst hi0; decide)
    (fun i hi => hs _ (by decide +kernel)) (fun i hi => hs _ (by decide +kernel)) (fun i hi => hs _ (by decide +kernel)) (fun i hi => by
      obtain rfl : i = 0 := by omega
      exact hs (Cond.eq (.length (.field (.string "TemplateHouseModel" 311) "java/lang/String" "value" "[B")) (.int 10)) (by decide +kernel)) (fun i hi j hj => by
      obtain rfl : i = 0 := by omega
      exact hs _ ((by decide +kernel : ∀ j : Nat, j < 10 → Cond.eq (.elem (.field (.string "TemplateHouseModel" 311) "java/lang/String" "value" "[B") (.int (Int32.ofNat j))) (.int (([100, 101, 108, 105, 109, 105, 116, 101, 114, 115] : List Int32).getD j 0)) ∈ flatC (Jvm.Cond.and given_1 narrow_1)) j hj)) (fun i j hi hj h => absurd (show i = j by omega) h) hA
  obtain ⟨aK3, aV3, hV3, eV3⟩ := vk_Sof (args := #[Value.ref b]) (s := s) (N := 1) (tm := fun _ => (.string "TemplateHouseModel" 317)) (len := [6]) (byt := [[105, 109, 112, 111, 114, 116]]) (A := fun q : Nat => s.heap.size ≤ q) (fun i hi => by have hi0 : i = 0 := (by omega); subst hi0; decide)
    (fun i hi => hs _ (by decide +kernel)) (fun i hi => hs _ (by decide +kernel)) (fun i hi => hs _ (by decide +kernel)) (fun i hi => by
      obtain rfl : i = 0 := by omega
      exact hs (Cond.eq (.length (.field (.string "TemplateHouseModel" 317) "java/lang/String" "value" "[B")) (.int 6)) (by decide +kernel)) (fun i hi j hj => by
      obtain rfl : i = 0 := by omega
      exact hs _ ((by decide +kernel : ∀ j : Nat, j < 6 → Cond.eq (.elem (.field (.string "TemplateHouseModel" 317) "java/lang/String" "value" "[B") (.int (Int32.ofNat j))) (.int (([105, 109, 112, 111, 114, 116] : List Int32).getD j 0)) ∈ flatC (Jvm.Cond.and given_1 narrow_1)) j hj)) (fun i j hi hj h => absurd (show i = j by omega) h) hA
  have hZU := vx_Zqof (C := Bundle.tN) (n := "UNASSIGNED_STACK") (d := Bundle.steD) (hts (.laysStatic "java/lang/Throwable" "UNASSIGNED_STACK" "[Ljava/lang/StackTraceElement;") (List.mem_append_right _ (List.mem_of_getElem? (i := 1051) (by decide +kernel)))) (hts (.initialized "java/lang/Throwable") (List.mem_append_right _ (List.mem_of_getElem? (i := 17) (by decide +kernel)))) (hs (.isRef (.static "java/lang/Throwable" "UNASSIGNED_STACK" "[Ljava/lang/StackTraceElement;")) (by decide +kernel)) hA
  have hZS := vx_Zqof (C := Bundle.tN) (n := "SUPPRESSED_SENTINEL") (d := Bundle.listD) (hts (.laysStatic "java/lang/Throwable" "SUPPRESSED_SENTINEL" "Ljava/util/List;") (List.mem_append_right _ (List.mem_of_getElem? (i := 1053) (by decide +kernel)))) (hts (.initialized "java/lang/Throwable") (List.mem_append_right _ (List.mem_of_getElem? (i := 17) (by decide +kernel)))) (hs (.isRef (.static "java/lang/Throwable" "SUPPRESSED_SENTINEL" "Ljava/util/List;")) (by decide +kernel)) hA
  have hNc : va_Nc "java/lang/IllegalStateException" "java/lang/IllegalArgumentException" s := va_Nc.of (hs (.not (.castable "java/lang/IllegalStateException" "java/lang/IllegalArgumentException")) (by decide +kernel))
  have hNest : ∀ w ∈ zNest, va_Nw w s := fun w hw => va_Nw.of (zNest_tables hw) (hts w (List.mem_append_right _ (List.mem_filter.mp hw).1))
  refine ⟨((fun k => (d k).1, fun k => (d k).2), (fun j => match j with | 0 => cI | 1 => cB | 2 => cL | 3 => cZ | 4 => cBB | _ => cG), (fun j => match j with | 0 => tT | 1 => aK0 0 | 2 => aK1 0 | 3 => aK2 0 | 4 => aK3 0 | 5 => aV0 0 | 6 => aV1 0 | 7 => aV2 0 | _ => aV3 0)), ⟨fun k q hq => hd k q hq, fun k q hq => ?_⟩, ?_, ?_⟩
  · match k, hq with
    | 0, hq => cases hq; exact ⟨fun n z => ⟨fun k h => (by cases h), kI, gI, pI, hI⟩, fI⟩
    | 1, hq => cases hq; exact ⟨fun n z => ⟨fun k h => (by cases h), kB, gB, pB, hB⟩, fB⟩
    | 2, hq => cases hq; exact ⟨fun n z => ⟨fun k h => (by cases h), kL, gL, pL, hL⟩, fL⟩
    | 3, hq => cases hq; exact ⟨fun n z => ⟨fun k h => (by cases h), kZ, gZ, pZ, hZ⟩, fZ⟩
    | 4, hq => cases hq; exact ⟨fun n z => ⟨fun k h => (by cases h), kBB, gBB, pBB, hBB⟩, fBB⟩
    | 5, hq => cases hq; exact ⟨fun n z => ⟨fun k h => (by cases h), kG, gG, pG, hG⟩, kG, pG, gG, hG, eG, fG⟩
    | k + 6, hq => simp [zty] at hq
  · exact ⟨hZT, hT, hZC, ⟨(hV0.1 0 (by decide)).1, (hV0.1 0 (by decide)).2.1, (hV0.1 0 (by decide)).2.2.1, _, (hV0.1 0 (by decide)).2.2.2⟩, ⟨(hV1.1 0 (by decide)).1, (hV1.1 0 (by decide)).2.1, (hV1.1 0 (by decide)).2.2.1, _, (hV1.1 0 (by decide)).2.2.2⟩, ⟨(hV2.1 0 (by decide)).1, (hV2.1 0 (by decide)).2.1, (hV2.1 0 (by decide)).2.2.1, _, (hV2.1 0 (by decide)).2.2.2⟩, ⟨(hV3.1 0 (by decide)).1, (hV3.1 0 (by decide)).2.1, (hV3.1 0 (by decide)).2.2.1, _, (hV3.1 0 (by decide)).2.2.2⟩, hZU, hZS⟩
  · exact ⟨va_AO.of hoG, hoB, vk_R.of (A := #[Value.ref b]) (hts (.stringRef "TemplateHouse$FileReader" 144 "delimiters") (List.mem_append_right _ (List.mem_of_getElem? (i := 1091) (by decide +kernel)))) (eV0 0 (by decide)), vk_R.of (A := #[Value.ref b]) (hts (.stringRef "TemplateHouse$FileReader" 163 "import") (List.mem_append_right _ (List.mem_of_getElem? (i := 1242) (by decide +kernel)))) (eV1 0 (by decide)), vk_R.of (A := #[Value.ref b]) (hts (.stringRef "TemplateHouseModel" 311 "delimiters") (List.mem_append_right _ (List.mem_of_getElem? (i := 3004) (by decide +kernel)))) (eV2 0 (by decide)), vk_R.of (A := #[Value.ref b]) (hts (.stringRef "TemplateHouseModel" 317 "import") (List.mem_append_right _ (List.mem_of_getElem? (i := 3038) (by decide +kernel)))) (eV3 0 (by decide)), hNc, hNest⟩
theorem whole_start {p : Program} {e : Env} {s : State} {m : MethodId} {below : List Frame} {meth : Method} {c : Code} (l : Launch) (hflags : l.flags = flags0) {b L : Nat} {xs : Nat → Int32} (hL : L ≤ 6) (C0 : lw_At p s m meth c b L xs) : W p l e room_1 s m #[Value.ref b] below meth c s.heap [] 0 0 (lw_Z below #[Value.ref b] s) (entryFrame m ([Value.ref b] : List Value).toArray 7) := by
  obtain ⟨hx, hb, hr, hml, hown, hts, hX, hbl, hlocks, hgv, hnm⟩ := id C0
  obtain ⟨G, hG⟩ := zG_start hts hgv
  have hst : l.stackTraces = false := by
    unfold Launch.stackTraces
    rw [hflags]
    decide
  have hC : zC (p, l, e, room_1, s, m, #[Value.ref b], below, meth, c, (fun q => s.heap.size ≤ q), lw_Z below #[Value.ref b] s) l G yL_law cL_law 7 2048 84000 462046 7716100 := ⟨rfl, rfl, hx, hb, hml, hown, fun w hw => hts w (zT_in hw), hnm, fun q h => h, hG⟩
  have hE : zEnd (p, l, e, room_1, s, m, #[Value.ref b], below, meth, c, (fun q => s.heap.size ≤ q), lw_Z below #[Value.ref b] s) G := by
    intro ws lv k n pc hd hk hn H locs ls hP hD hS hl
    refine va_forget (fun q hq => hS.2.2 q hq) ?_
    refine W.widen (k := 462046) (n := 7716100) hk hn ?_
    exact lw_ret hx hb hr hlocks hd
  have h := law_all hC hst hL (xs := xs) ⟨hX, hbl, Nat.not_le.mpr hbl⟩ hE s.heap [] ((lg_sl [Value.ref b] ++ List.replicate (7 - (lg_sl [Value.ref b]).length) Slot.unset).toArray) (fun k q h => by simp at h) ⟨fun i j p q h => by simp at h, fun k q h => by simp at h⟩ va_S.rf (lv_entry [Value.ref b] (n := 7) (Nat.le_of_ble_eq_true rfl))
  rw [lg_entry_eq]
  exact h

-- ===== YOUR PART ENDS =====
set_option maxHeartbeats 4000000 in
theorem lw_walk (l : Launch) (hflags : l.flags = flags0) (b : Addr) (xs : List Int32) : MetFree l x (headSpec (Jvm.Cond.code x code maxLocals ret :: tables_1) room_1) (lw_P b xs) (fun _ _ _ _ _ => True) lw_Q := by
  refine MetFree.of_bodyS (code := code) (maxLocals := maxLocals) (ret := ret) (by decide) ?_ ?_
  · intro args s m h hn
    obtain ⟨meth, c, h1, h2, h3, h4, h5, h6, -, -⟩ := Cond.code_spec hn (atoms_spec (ws := Jvm.Cond.code x code maxLocals ret :: tables_1) h _ List.mem_cons_self)
    exact ⟨meth, c, h1, h2, h3, h4, h5, h6⟩
  · intro p e s m args below meth c s₁ B hml0 hP _
    obtain ⟨rfl, hx, hbd, hgv⟩ := hP
    obtain ⟨scr, harrAt, hlist, hof, hsmall⟩ := hx
    obtain ⟨hcb, hkn, -, -⟩ := State.arrayAt?_spec harrAt
    have hown : s.vm.findClass R_law = some m.cls := findClass_of_methodNamed B.named
    have hts0 : ∀ c ∈ (Jvm.Cond.code x code maxLocals ret :: tables_1), c.before #[Value.ref b] s = true := atoms_spec (ws := Jvm.Cond.code x code maxLocals ret :: tables_1) B.pre
    have hts : ∀ w ∈ lw_tbl, w.before #[Value.ref b] s = true := k2_hts_sels lw_privs (fun w hw => hts0 w (List.mem_cons_of_mem _ hw)) lw_privs_ok
    have hml : c.maxLocals = 7 := B.maxLocals_eq (hts0 _ List.mem_cons_self)
    have X₀ : Stand p l e room_1 s m #[Value.ref b] below meth c s₁ [] 0 0 := Stand.of_body B
    have hh0 : s₁.heap = s.heap := by rw [B.state]; rfl
    have hsz : scr.slots.size = xs.length := by rw [← Array.length_toList, hlist, List.length_map]
    have hval : ∀ j : Nat, j < xs.length → scr.slots[j]? = some (.int (xs.getD j 0)) := fun j hj => by
      rw [← Array.getElem?_toList, hlist]
      simp [hj]
    have hbl : b < s.heap.size := (Array.getElem?_eq_some_iff.mp hcb).1
    have hX : va_X b xs.length (fun j => xs.getD j 0) s s.heap := ⟨scr, hcb, hof, hkn, hsz, hval⟩
    have K : W p l e room_1 s m #[Value.ref b] below meth c s₁.heap [] 0 0 (lw_Z below #[Value.ref b] s) (entryFrame m ([Value.ref b] : List Value).toArray 7) := by
      rw [hh0]
      exact whole_start l hflags hbd ⟨B.exec, B.bytes, B.returns, hml, hown, hts, hX, hbl, B.notSynchronized, hgv, (name_of_methodNamed B.named B.method).1⟩
    obtain ⟨t, a1, o, b1, b2, b3⟩ := K s₁ rfl X₀
    exact ⟨t, o, a1, b1, b2, b3⟩
theorem lw_pre_spec {args : Array Value} {s : State} (h : (Jvm.Cond.and given_1 narrow_1).before args s = true) (hr : rest_1_c.before args s = true) : ∃ (b : Addr) (xs : List Int32), lw_P b xs args s := by
  have hs := flat_of_before _ h
  have hq := flat_of_before _ hr
  have hc : (Cond.count 1).before args s = true := hs _ (by decide +kernel)
  have harr : (Cond.arrayOf (.arg 0) .int).before args s = true := hs _ (by decide +kernel)
  have hle : (Cond.le (.length (.arg 0)) (.int 6)).before args s = true := hs _ (by decide +kernel)
  have hlen : (Cond.isInt (.length (.arg 0))).before args s = true := hq _ (by decide +kernel)
  have hall : (Cond.all (.arg 0) (.isInt (.elem (.arg 0) (.index 0)))).before args s = true := hq _ (by decide +kernel)
  obtain ⟨b, xs, hb, hx⟩ := State.ints_of_pre rfl harr hlen hall
  have hsm : xs.length < 2 ^ 31 := hx.choose_spec.2.2.2
  have hev : (Term.length (.arg 0)).eval args s none [] s = some (.int xs.length.toInt32) := hx.length_eval hb
  have hv := Cond.le_ints hev (show (Term.int 6).eval args s none [] s = some (.int 6) from rfl)
  have hd : xs.length.toInt32 ≤ 6 := by
    simpa [Cond.before, Cond.holds, hv] using hle
  have hN : xs.length ≤ 6 := (Int32.ofNat_le_ofNat hsm (by decide)).mp (show Int32.ofNat xs.length ≤ Int32.ofNat 6 from hd)
  exact ⟨b, xs, Cond.one_arg hc (show args[0]? = some (.ref b) from hb), hx, hN, h⟩
theorem lw_comes (l : Launch) (hflags : l.flags = flags0) : Comes l x (Jvm.Cond.code x code maxLocals ret :: tables_1) room_1 (fun tb e args s => Calls_1 tb e args s ∧ rest_1 tb e args s ∧ Pre_1 tb e args s)
    (fun _ _ args s o t => lw_Q args s o t) := by
  intro p e ha hc hk s m args below hf hfit hheap happ hpre
  obtain ⟨b, xs, hP⟩ := lw_pre_spec hpre.2.2 hpre.2.1
  obtain ⟨k, o, h1, h2, h3, hQ⟩ := lw_walk l hflags b xs p e ha hc hk s m args below hf ((Spec.applies_iff_loose hf).mp happ).1 hP trivial
  exact ⟨k, o, h1, h2, h3, hQ⟩
theorem lw_frame {s t : State} {o : Outcome} {args : Array Value} (h : Framed s o t [] 462046 7716100) :
    Framed s o t (fieldLocs frame_1_writes args s ++ arrayLocs frame_1_arrays args s ++ staticLocs frame_1_statics s) 462046 7716100 := h
theorem lw_limb (L : Cond) (hL : ∀ (args : Array Value) (s t : State), L.after args s (.returned (some (.int 1))) t = true) :
    ArmFor flags0 classFile x code maxLocals ret World_1 tables_1 room_1 Calls_1 rest_1 Pre_1
      (fun tb e a s o t => postC L tb e a s o t ∧ Framed s o t (fieldLocs frame_1_writes a s ++ arrayLocs frame_1_arrays a s ++ staticLocs frame_1_statics s) 462046 7716100) := by
  intro l hflags _ _ p e ha hc hk s m args below hf hfit hheap happ hpre
  obtain ⟨k, o, h1, h2, h3, rfl, hF⟩ := lw_comes l hflags p e ha hc hk s m args below hf hfit hheap happ hpre
  exact ⟨k, _, h1, h2, h3, hL args s _, lw_frame hF⟩
theorem i_vc : Claimed_1_1 ∧ Claimed_1_2 := ⟨lw_limb limb_1_1 (fun args s t => by simp [limb_1_1, Cond.after, Cond.holds, Cond.value]), lw_limb limb_1_2 (fun args s t => Cond.after_iff.mpr (by
  first | (rw [show limb_1_2 = Cond.eq .result (.int 1) from rfl, Cond.eq_ints (x := 1) (y := 1) rfl rfl]; simp; done) | (simp [limb_1_2, Cond.value, Term.eval]; done)))⟩
