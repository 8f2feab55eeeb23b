theorem zw951 : Cond.code ⟨"java/util/Arrays", "fill", "([II)V"⟩ prog_34_method_103_code 4 (Option.none : Option Jvm.ClassFile.FieldType) ∈ zT := zin 975 (by decide +kernel) (by decide +kernel)
theorem zw16 : Cond.initialized "java/util/Arrays" ∈ zT := zin 40 (by decide +kernel) (by decide +kernel)
theorem zw950 : Cond.static ⟨"java/util/Arrays", "fill", "([II)V"⟩ ∈ zT := zin 974 (by decide +kernel) (by decide +kernel)
theorem zw786 : Cond.code ⟨"java/util/Arrays", "fill", "([BB)V"⟩ prog_34_method_109_code 4 (Option.none : Option Jvm.ClassFile.FieldType) ∈ zT := zin 810 (by decide +kernel) (by decide +kernel)
theorem zw785 : Cond.static ⟨"java/util/Arrays", "fill", "([BB)V"⟩ ∈ zT := zin 809 (by decide +kernel) (by decide +kernel)
abbrev cJ7_fill_53178 : ByteArray := prog_34_method_103_code
abbrev yJ7_fill_53178 : MethodName := ⟨"java/util/Arrays", "fill", "([II)V"⟩
theorem dmJ7_fill_53178 : zDs yJ7_fill_53178 cJ7_fill_53178 4 none 2 := ⟨⟨⟨by decide +kernel, by decide +kernel, by decide +kernel⟩, zw951, zw16⟩, zw950⟩
abbrev cJ7_fill_031fb : ByteArray := prog_34_method_109_code
abbrev yJ7_fill_031fb : MethodName := ⟨"java/util/Arrays", "fill", "([BB)V"⟩
theorem dmJ7_fill_031fb : zDs yJ7_fill_031fb cJ7_fill_031fb 4 none 2 := ⟨⟨⟨by decide +kernel, by decide +kernel, by decide +kernel⟩, zw786, zw16⟩, zw785⟩
theorem dJ7_fill_53178_5 : decode cJ7_fill_53178 5 = .ok (.iload_n 2, 1) := by decide +kernel
theorem dJ7_fill_53178_6 : decode cJ7_fill_53178 6 = .ok (.iload_n 3, 1) := by decide +kernel
theorem dJ7_fill_53178_7 : decode cJ7_fill_53178 7 = .ok (.if_icmp .ge 13, 3) := by decide +kernel
theorem dJ7_fill_53178_20 : decode cJ7_fill_53178 20 = .ok (.return_, 1) := by decide +kernel
theorem dJ7_fill_53178_10 : decode cJ7_fill_53178 10 = .ok (.aload_n 0, 1) := by decide +kernel
theorem dJ7_fill_53178_11 : decode cJ7_fill_53178 11 = .ok (.iload_n 2, 1) := by decide +kernel
theorem dJ7_fill_53178_12 : decode cJ7_fill_53178 12 = .ok (.iload_n 1, 1) := by decide +kernel
theorem dJ7_fill_53178_13 : decode cJ7_fill_53178 13 = .ok (.iastore, 1) := by decide +kernel
theorem dJ7_fill_53178_14 : decode cJ7_fill_53178 14 = .ok (.iinc 2 1, 3) := by decide +kernel
theorem dJ7_fill_53178_17 : decode cJ7_fill_53178 17 = .ok (.goto (-12), 3) := by decide +kernel
theorem dJ7_fill_53178_0 : decode cJ7_fill_53178 0 = .ok (.iconst 0, 1) := by decide +kernel
theorem dJ7_fill_53178_1 : decode cJ7_fill_53178 1 = .ok (.istore_n 2, 1) := by decide +kernel
theorem dJ7_fill_53178_2 : decode cJ7_fill_53178 2 = .ok (.aload_n 0, 1) := by decide +kernel
theorem dJ7_fill_53178_3 : decode cJ7_fill_53178 3 = .ok (.arraylength, 1) := by decide +kernel
theorem dJ7_fill_53178_4 : decode cJ7_fill_53178 4 = .ok (.istore_n 3, 1) := by decide +kernel
theorem dJ7_fill_031fb_5 : decode cJ7_fill_031fb 5 = .ok (.iload_n 2, 1) := by decide +kernel
theorem dJ7_fill_031fb_6 : decode cJ7_fill_031fb 6 = .ok (.iload_n 3, 1) := by decide +kernel
theorem dJ7_fill_031fb_7 : decode cJ7_fill_031fb 7 = .ok (.if_icmp .ge 13, 3) := by decide +kernel
theorem dJ7_fill_031fb_20 : decode cJ7_fill_031fb 20 = .ok (.return_, 1) := by decide +kernel
theorem dJ7_fill_031fb_10 : decode cJ7_fill_031fb 10 = .ok (.aload_n 0, 1) := by decide +kernel
theorem dJ7_fill_031fb_11 : decode cJ7_fill_031fb 11 = .ok (.iload_n 2, 1) := by decide +kernel
theorem dJ7_fill_031fb_12 : decode cJ7_fill_031fb 12 = .ok (.iload_n 1, 1) := by decide +kernel
theorem dJ7_fill_031fb_13 : decode cJ7_fill_031fb 13 = .ok (.bastore, 1) := by decide +kernel
theorem dJ7_fill_031fb_14 : decode cJ7_fill_031fb 14 = .ok (.iinc 2 1, 3) := by decide +kernel
theorem dJ7_fill_031fb_17 : decode cJ7_fill_031fb 17 = .ok (.goto (-12), 3) := by decide +kernel
theorem dJ7_fill_031fb_0 : decode cJ7_fill_031fb 0 = .ok (.iconst 0, 1) := by decide +kernel
theorem dJ7_fill_031fb_1 : decode cJ7_fill_031fb 1 = .ok (.istore_n 2, 1) := by decide +kernel
theorem dJ7_fill_031fb_2 : decode cJ7_fill_031fb 2 = .ok (.aload_n 0, 1) := by decide +kernel
theorem dJ7_fill_031fb_3 : decode cJ7_fill_031fb 3 = .ok (.arraylength, 1) := by decide +kernel
theorem dJ7_fill_031fb_4 : decode cJ7_fill_031fb 4 = .ok (.istore_n 3, 1) := by decide +kernel
theorem z_cong1 {X : zX} {G : zG} {nL : Nat} {lv : List (Nat × Value)} {k n pc a N : Nat} {c : ClassId} {st : List Value} {g g' : Nat → Int32} (h : ∀ j, j < N → g j = g' j) (kk : zS X G nL [(a, .inl (c, N, .inl g'))] lv k n pc st) : zS X G nL [(a, .inl (c, N, .inl g))] lv k n pc st := by
  obtain ⟨p, l', e, R, s, m, args, below, meth, cc, A, Q⟩ := X
  intro H locs ls hP hD hS hl
  refine kk H locs ls (fun i q hq => ?_) (hD.set (p := 0) rfl) hS hl
  have hz : i < 1 := (List.getElem?_eq_some_iff.mp hq).1
  rw [show i = 0 by omega] at hq
  cases hq
  have h0 : H[a]? = some (vp_cell c (N, .inl g)) := hP 0 _ rfl
  show H[a]? = some (vp_cell c (N, .inl g'))
  rw [h0, vp_cell_i, vp_cell_i]
  have e : (fun j : Fin N => Value.int (g j.val)) = fun j : Fin N => Value.int (g' j.val) := funext fun j => by rw [h j.val j.isLt]
  show some ({ cls := c, slots := Array.ofFn (n := N) fun j => Value.int (g j.val), vm := .none } : Cell) = some ({ cls := c, slots := Array.ofFn (n := N) fun j => Value.int (g' j.val), vm := .none } : Cell)
  rw [e]
theorem kfill_i (l : Launch) (G : zG) (a N : Nat) (f : Nat → Int32) (v : Int32) (hN : N < 2 ^ 31) : zMv l G yJ7_fill_53178 cJ7_fill_53178 4 0 0 0 0 [.ref a, .int v] [(a, .inl (G.2.1 0, N, .inl f))] (fun w => w = [(a, .inl (G.2.1 0, N, .inl (fun _ => v)))]) := by
  refine zMv.intro (by decide) (Nat.le_of_ble_eq_true rfl) (fun X hC hR => ?_)
  have loop : ∀ (d i : Nat) (g : Nat → Int32), i + d = N → (∀ j, j < i → g j = v) → zS X G 4 [(a, .inl (G.2.1 0, N, .inl g))] [(2, .int (nI i)), (3, .int (nI N)), (0, .ref a), (1, .int v)] 0 0 5 [] := by
    intro d
    induction d with
    | zero =>
      intro i g hi hg
      obtain rfl : i = N := by omega
      refine z_iload_n hC (pc := 5) 0 dJ7_fill_53178_5 rfl rfl ?_
      refine z_iload_n hC (pc := 6) 1 dJ7_fill_53178_6 rfl rfl ?_
      refine z_icmp_geT hC (pc := 7) 20 dJ7_fill_53178_7 (by decide) (Int32.le_refl _) ?_
      refine z_cong1 (g' := fun _ => v) hg ?_
      exact hR _ _ _ _ _ dJ7_fill_53178_20 (Nat.le_of_ble_eq_true rfl) (Nat.le_of_ble_eq_true rfl) rfl
    | succ d ih =>
      intro i g hi hg
      refine z_iload_n hC (pc := 5) 0 dJ7_fill_53178_5 rfl rfl ?_
      refine z_iload_n hC (pc := 6) 1 dJ7_fill_53178_6 rfl rfl ?_
      refine z_icmp_geF hC (pc := 7) 20 dJ7_fill_53178_7 (by decide) (nI_ge (by omega) (by omega)) ?_
      refine z_aload_n hC (pc := 10) 2 dJ7_fill_53178_10 rfl rfl ?_
      refine z_iload_n hC (pc := 11) 0 dJ7_fill_53178_11 rfl rfl ?_
      refine z_iload_n hC (pc := 12) 3 dJ7_fill_53178_12 rfl rfl ?_
      refine z_iast hC (pc := 13) (f' := upd g i v) 0 [(a, .inl (G.2.1 0, N, .inl (upd g i v)))] dJ7_fill_53178_13 rfl (vp_in_nI (by omega) (by omega)) (by rw [nI_clamp (by omega)]) rfl ?_
      refine z_iinc hC (pc := 14) (v := nI (i + 1)) (lv' := [(2, .int (nI (i + 1))), (3, .int (nI N)), (0, .ref a), (1, .int v)]) 0 dJ7_fill_53178_14 rfl (nI_1 i) (by decide) rfl ?_
      refine z_goto hC (pc := 17) 5 dJ7_fill_53178_17 (by decide) ?_
      refine ih (i + 1) _ (by omega) (fun j hj => ?_)
      by_cases h : j = i
      · subst h; simp [upd]
      · simp [upd, h]; exact hg j (by omega)
  refine z_iconst hC (pc := 0) (v := 0) dJ7_fill_53178_0 (by decide) ?_
  refine z_istore_n hC (pc := 1) (lv' := [(2, .int 0), (0, .ref a), (1, .int v)]) dJ7_fill_53178_1 rfl (by decide) rfl ?_
  refine z_aload_n hC (pc := 2) 1 dJ7_fill_53178_2 rfl rfl ?_
  refine z_alen0 hC (pc := 3) (v := nI N) 0 dJ7_fill_53178_3 rfl rfl ?_
  refine z_istore_n hC (pc := 4) (lv' := [(3, .int (nI N)), (2, .int 0), (0, .ref a), (1, .int v)]) dJ7_fill_53178_4 rfl (by decide) rfl ?_
  refine z_lv [1, 0, 2, 3] (lv' := [(2, .int (nI 0)), (3, .int (nI N)), (0, .ref a), (1, .int v)]) rfl ?_
  exact loop N 0 f (by omega) (fun j hj => absurd hj (Nat.not_lt_zero j))
theorem kfill_b (l : Launch) (G : zG) (a N : Nat) (f : Nat → Int32) (v : Int32) (hN : N < 2 ^ 31) : zMv l G yJ7_fill_031fb cJ7_fill_031fb 4 0 0 0 0 [.ref a, .int v] [(a, .inl (G.2.1 1, N, .inl f))] (fun w => w = [(a, .inl (G.2.1 1, N, .inl (fun _ => (vp_nar .byte v))))]) := by
  refine zMv.intro (by decide) (Nat.le_of_ble_eq_true rfl) (fun X hC hR => ?_)
  have loop : ∀ (d i : Nat) (g : Nat → Int32), i + d = N → (∀ j, j < i → g j = (vp_nar .byte v)) → zS X G 4 [(a, .inl (G.2.1 1, N, .inl g))] [(2, .int (nI i)), (3, .int (nI N)), (0, .ref a), (1, .int v)] 0 0 5 [] := by
    intro d
    induction d with
    | zero =>
      intro i g hi hg
      obtain rfl : i = N := by omega
      refine z_iload_n hC (pc := 5) 0 dJ7_fill_031fb_5 rfl rfl ?_
      refine z_iload_n hC (pc := 6) 1 dJ7_fill_031fb_6 rfl rfl ?_
      refine z_icmp_geT hC (pc := 7) 20 dJ7_fill_031fb_7 (by decide) (Int32.le_refl _) ?_
      refine z_cong1 (g' := fun _ => (vp_nar .byte v)) hg ?_
      exact hR _ _ _ _ _ dJ7_fill_031fb_20 (Nat.le_of_ble_eq_true rfl) (Nat.le_of_ble_eq_true rfl) rfl
    | succ d ih =>
      intro i g hi hg
      refine z_iload_n hC (pc := 5) 0 dJ7_fill_031fb_5 rfl rfl ?_
      refine z_iload_n hC (pc := 6) 1 dJ7_fill_031fb_6 rfl rfl ?_
      refine z_icmp_geF hC (pc := 7) 20 dJ7_fill_031fb_7 (by decide) (nI_ge (by omega) (by omega)) ?_
      refine z_aload_n hC (pc := 10) 2 dJ7_fill_031fb_10 rfl rfl ?_
      refine z_iload_n hC (pc := 11) 0 dJ7_fill_031fb_11 rfl rfl ?_
      refine z_iload_n hC (pc := 12) 3 dJ7_fill_031fb_12 rfl rfl ?_
      refine z_bast hC (pc := 13) (f' := upd g i (vp_nar .byte v)) 0 [(a, .inl (G.2.1 1, N, .inl (upd g i (vp_nar .byte v))))] dJ7_fill_031fb_13 rfl (vp_in_nI (by omega) (by omega)) (by rw [nI_clamp (by omega)]) rfl ?_
      refine z_iinc hC (pc := 14) (v := nI (i + 1)) (lv' := [(2, .int (nI (i + 1))), (3, .int (nI N)), (0, .ref a), (1, .int v)]) 0 dJ7_fill_031fb_14 rfl (nI_1 i) (by decide) rfl ?_
      refine z_goto hC (pc := 17) 5 dJ7_fill_031fb_17 (by decide) ?_
      refine ih (i + 1) _ (by omega) (fun j hj => ?_)
      by_cases h : j = i
      · subst h; simp [upd]
      · simp [upd, h]; exact hg j (by omega)
  refine z_iconst hC (pc := 0) (v := 0) dJ7_fill_031fb_0 (by decide) ?_
  refine z_istore_n hC (pc := 1) (lv' := [(2, .int 0), (0, .ref a), (1, .int v)]) dJ7_fill_031fb_1 rfl (by decide) rfl ?_
  refine z_aload_n hC (pc := 2) 1 dJ7_fill_031fb_2 rfl rfl ?_
  refine z_alen1 hC (pc := 3) (v := nI N) 0 dJ7_fill_031fb_3 rfl rfl ?_
  refine z_istore_n hC (pc := 4) (lv' := [(3, .int (nI N)), (2, .int 0), (0, .ref a), (1, .int v)]) dJ7_fill_031fb_4 rfl (by decide) rfl ?_
  refine z_lv [1, 0, 2, 3] (lv' := [(2, .int (nI 0)), (3, .int (nI N)), (0, .ref a), (1, .int v)]) rfl ?_
  exact loop N 0 f (by omega) (fun j hj => absurd hj (Nat.not_lt_zero j))

