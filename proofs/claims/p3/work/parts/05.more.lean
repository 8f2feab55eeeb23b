theorem zdef {N : Nat} {ty : Nat → FieldType} {fs : List Value} (h : (List.range N).map (fun j => defaultValue (ty j)) = fs) : ∀ j, j < N → defaultValue (ty j) = vp_V fs j := by
  intro j hj
  subst h
  simp [vp_V, List.getD, hj]
theorem zvi {i : Int32} {n : Nat} (h : (!(decide (i < 0)) && decide (i.toNatClampNeg < n)) = true) : vp_in i n := by
  simp only [Bool.and_eq_true, Bool.not_eq_true', decide_eq_false_iff_not, decide_eq_true_eq] at h
  exact fun q => q.elim h.1 (fun g => Nat.not_le.mpr h.2 g)
theorem zvs {i L : Int32} {n : Nat} (h0 : ¬ i < 0) (h1 : ¬ L ≤ i) (hL : L.toInt = (n : Int)) : vp_in i n := by
  rw [Int32.not_lt] at h0
  rw [Int32.not_le] at h1
  rw [Int32.le_iff_toInt_le] at h0
  rw [Int32.lt_iff_toInt_lt] at h1
  rw [vp_in_iff]
  rw [hL] at h1
  exact ⟨h0, h1⟩

theorem zouter (c : ClassId) (N h0 : Nat) : ∀ i : Nat, Jvm.Free.Multi.outerC c N h0 i = arrV c N (fun j => va_rf (if j < i then some (h0 + 1 + j) else none))
  | 0 => by
    show ({ cls := c, slots := Array.replicate N .null, vm := .none } : Cell) = _
    rw [arrV_new]
    exact congrArg (arrV c N) (funext fun j => by simp [va_rf])
  | i + 1 => by
    show (Jvm.Free.Multi.outerC c N h0 i).setSlot i (.ref (h0 + 1 + i)) = _
    rw [zouter c N h0 i, arrV_store]
    refine congrArg (arrV c N) (funext fun j => ?_)
    rcases Nat.lt_trichotomy j i with h | h | h
    · simp [updV, show ¬ j = i by omega, h, show j < i + 1 by omega]
    · subst h; simp [updV, va_rf]
    · simp [updV, show ¬ j = i by omega, show ¬ j < i by omega, show ¬ j < i + 1 by omega]
theorem zq4 {r : Nat → Nat} {N : Nat} {i : Int32} (h : vp_in i N) : (fun j => if j < N then some (r j) else none) i.toNatClampNeg = some (r i.toNatClampNeg) := if_pos (Nat.not_le.mp fun q => h (Or.inr q))

section ZMORE
variable {X : zX} {l : Launch} {G : zG} {y : MethodName} {cc : ByteArray} {nL fr lo mc ms : Nat} {ws : va_W} {lv : List (Nat × Value)} {k n pc : Nat} {st : List Value}

theorem zldcwS {p : Program} {l : Launch} {e : Env} {R : Room} {s : State} {m : MethodId} {args : Array Value} {below : List Frame} {meth : Method} {c : Code} {T : State} {locs : List Loc} {cells slots : Nat} (X : Stand p l e R s m args below meth c T locs cells slots) (hexec : p.tables.exec = Jvm.exec) {own text : String} {index : Nat} {a : Addr} (hown : s.vm.findClass own = some m.cls)
    (hconst : (Cond.stringRef own index text).before args s = true) (hev : (Term.string own index).eval args s none [] s = some (.ref a)) {g : JFrame} (hg : g.method = m) (hdg : decode c.code g.pc = .ok (.ldc_w index, 3)) :
    ∀ target, Steps p.tables e below (T.setTop { g with pc := g.pc + 3, stack := .ref a :: g.stack }) target → Steps p.tables e below (T.setTop g) target := by
  obtain ⟨k, cf, i, a', hk, hcf, hcp, -, hr, hev'⟩ := Cond.stringRef_spec hown hconst
  cases hev.symm.trans hev'
  obtain ⟨k', hk', he⟩ := X.warmed.alike.2.2 _ _ hk
  have hr' : k'.resolved[index]? = some (some (.string a)) := by
    rcases X.warmed.entry hk hk' index with h | ⟨h, -⟩
    · rw [h]; exact hr
    · rw [hr] at h; cases h
  intro target hrest
  subst hg
  jvm_step X.here [hexec, hdg, ldc_w.wp_string (e := e) (s := T) (f := g) X.here.top hk' (by rw [he]; exact hcf) hcp hr']
  exact hrest

theorem z_ldc (hC : zC X l G y cc nL fr lo mc ms) {idx : Nat} {v : Int32} (hd : decode cc pc = .ok (.ldc idx, 2)) (hw : Cond.constant y.cls idx v ∈ zT) (kk : zS X G nL ws lv k n (pc + 2) (.int v :: st)) : zS X G nL ws lv k n pc st := by
  obtain ⟨p, l', e, R, s, m, args, below, meth, c, A, Q⟩ := X
  obtain ⟨rfl, rfl, hx, hb, hml, hown, hts, hnm, hA, hK⟩ := hC
  intro H locs ls hP hD hS hl
  exact lv_ldc hx hb hown (hts _ hw) hd (kk H locs ls hP hD hS hl)

theorem z_ldc_w (hC : zC X l G y cc nL fr lo mc ms) {idx : Nat} {v : Int32} (hd : decode cc pc = .ok (.ldc_w idx, 3)) (hw : Cond.constant y.cls idx v ∈ zT) (kk : zS X G nL ws lv k n (pc + 3) (.int v :: st)) : zS X G nL ws lv k n pc st := by
  obtain ⟨p, l', e, R, s, m, args, below, meth, c, A, Q⟩ := X
  obtain ⟨rfl, rfl, hx, hb, hml, hown, hts, hnm, hA, hK⟩ := hC
  intro H locs ls hP hD hS hl
  exact lv_ldcw hx hb hown (hts _ hw) hd (kk H locs ls hP hD hS hl)

theorem z_ldcS (hC : zC X l G y cc nL fr lo mc ms) {idx a : Nat} {tx : String} (hd : decode cc pc = .ok (.ldc idx, 2)) (hs : ∀ U : State, zNt G.2.2 U → vk_R y.cls idx tx a U) (kk : zS X G nL ws lv k n (pc + 2) (.ref a :: st)) : zS X G nL ws lv k n pc st := by
  obtain ⟨p, l', e, R, s, m, args, below, meth, c, A, Q⟩ := X
  obtain ⟨rfl, rfl, hx, hb, hml, hown, hts, hnm, hA, hK⟩ := hC
  intro H locs ls hP hD hS hl
  exact va_ldcS (tx := tx) (args := args) hx hb hown (hs s hK.2.2) hd (kk H locs ls hP hD hS hl)

theorem z_ldcSw (hC : zC X l G y cc nL fr lo mc ms) {idx a : Nat} {tx : String} (hd : decode cc pc = .ok (.ldc_w idx, 3)) (hs : ∀ U : State, zNt G.2.2 U → vk_R y.cls idx tx a U) (kk : zS X G nL ws lv k n (pc + 3) (.ref a :: st)) : zS X G nL ws lv k n pc st := by
  obtain ⟨p, l', e, R, s, m, args, below, meth, c, A, Q⟩ := X
  obtain ⟨rfl, rfl, hx, hb, hml, hown, hts, hnm, hA, hK⟩ := hC
  intro H locs ls hP hD hS hl
  intro T hT XX
  obtain ⟨t, a1, b1⟩ := kk H locs ls hP hD hS hl T hT XX
  exact ⟨t, zldcwS XX hx hown (text := tx) (a := a) (hs s hK.2.2).1 (hs s hK.2.2).2 (g := F0 m pc ls st) rfl (by rw [hb]; exact hd) t a1, b1⟩





theorem z_getTURN (hC : zC X l G y cc nL fr lo mc ms) {idx : Nat} (hd : decode cc pc = .ok (.getstatic idx, 3)) (hw : Cond.fieldLink y.cls idx "TemplateHouse$Names" "TURN" "[B" ∈ zT) (kk : zS X G nL ws lv k n (pc + 3) (.ref (G.2.2 0) :: st)) : zS X G nL ws lv k n pc st := by
  obtain ⟨p, l', e, R, s, m, args, below, meth, c, A, Q⟩ := X
  obtain ⟨rfl, rfl, hx, hb, hml, hown, hts, hnm, hA, hK⟩ := hC
  intro H locs ls hP hD hS hl
  exact va_gets hx hb hK.2.1.1 hS hown (hts _ hw) (fun _ h => h) hd (kk H locs ls hP hD hS hl)

theorem z_getCOMPACT (hC : zC X l G y cc nL fr lo mc ms) {idx : Nat} (hd : decode cc pc = .ok (.getstatic idx, 3)) (hw : Cond.fieldLink y.cls idx "java/lang/String" "COMPACT_STRINGS" "Z" ∈ zT) (kk : zS X G nL ws lv k n (pc + 3) (.int 1 :: st)) : zS X G nL ws lv k n pc st := by
  obtain ⟨p, l', e, R, s, m, args, below, meth, c, A, Q⟩ := X
  obtain ⟨rfl, rfl, hx, hb, hml, hown, hts, hnm, hA, hK⟩ := hC
  intro H locs ls hP hD hS hl
  exact va_gets hx hb hK.2.1.2.2.1 hS hown (hts _ hw) (fun _ h => h) hd (kk H locs ls hP hD hS hl)

theorem z_tbald (hC : zC X l G y cc nL fr lo mc ms) {i v : Int32} (hd : decode cc pc = .ok (.baload, 1)) (hi : vp_in i 2) (hv : upd (upd (fun _ => 0) 0 105) 1 48 i.toNatClampNeg = v) (kk : zS X G nL ws lv k n (pc + 1) (.int v :: st)) : zS X G nL ws lv k n pc (.int i :: .ref (G.2.2 0) :: st) := by
  obtain ⟨p, l', e, R, s, m, args, below, meth, c, A, Q⟩ := X
  obtain ⟨rfl, rfl, hx, hb, hml, hown, hts, hnm, hA, hK⟩ := hC
  intro H locs ls hP hD hS hl
  exact va_tb hx hb hK.2.1.2.1 hS hi (congrArg Value.int hv) hd (kk H locs ls hP hD hS hl)

theorem z_talen (hC : zC X l G y cc nL fr lo mc ms) {v : Int32} (hd : decode cc pc = .ok (.arraylength, 1)) (hv : Int32.ofNat 2 = v) (kk : zS X G nL ws lv k n (pc + 1) (.int v :: st)) : zS X G nL ws lv k n pc (.ref (G.2.2 0) :: st) := by
  obtain ⟨p, l', e, R, s, m, args, below, meth, c, A, Q⟩ := X
  obtain ⟨rfl, rfl, hx, hb, hml, hown, hts, hnm, hA, hK⟩ := hC
  intro H locs ls hP hD hS hl
  exact va_tlen hx hb hK.2.1.2.1 hS hv hd (kk H locs ls hP hD hS hl)

theorem z_strVal (hC : zC X l G y cc nL fr lo mc ms) {idx a v len : Nat} (hz : ∀ (A : Nat → Prop) (U : State) (H : Heap), zNh G.2.2 A U H → zStr a v len A U H) (hd : decode cc pc = .ok (.getfield idx, 3)) (hw : Cond.fieldLink y.cls idx "java/lang/String" "value" "[B" ∈ zT) (kk : zS X G nL ws lv k n (pc + 3) (.ref v :: st)) : zS X G nL ws lv k n pc (.ref a :: st) := by
  obtain ⟨p, l', e, R, s, m, args, below, meth, c, A, Q⟩ := X
  obtain ⟨rfl, rfl, hx, hb, hml, hown, hts, hnm, hA, hK⟩ := hC
  intro H locs ls hP hD hS hl
  exact vk_getf hx hb (hz _ _ _ hK.2.1).2.2.1 hS hown (hts _ hw) (fun _ h => h) hd (kk H locs ls hP hD hS hl)

theorem z_strCoder (hC : zC X l G y cc nL fr lo mc ms) {idx a v len : Nat} (hz : ∀ (A : Nat → Prop) (U : State) (H : Heap), zNh G.2.2 A U H → zStr a v len A U H) (hd : decode cc pc = .ok (.getfield idx, 3)) (hw : Cond.fieldLink y.cls idx "java/lang/String" "coder" "B" ∈ zT) (kk : zS X G nL ws lv k n (pc + 3) (.int 0 :: st)) : zS X G nL ws lv k n pc (.ref a :: st) := by
  obtain ⟨p, l', e, R, s, m, args, below, meth, c, A, Q⟩ := X
  obtain ⟨rfl, rfl, hx, hb, hml, hown, hts, hnm, hA, hK⟩ := hC
  intro H locs ls hP hD hS hl
  exact vk_getf hx hb (hz _ _ _ hK.2.1).2.1 hS hown (hts _ hw) (fun _ h => h) hd (kk H locs ls hP hD hS hl)

theorem z_strLen (hC : zC X l G y cc nL fr lo mc ms) {a v len : Nat} {x : Int32} (hz : ∀ (A : Nat → Prop) (U : State) (H : Heap), zNh G.2.2 A U H → zStr a v len A U H) (hd : decode cc pc = .ok (.arraylength, 1)) (hv : Int32.ofNat len = x) (kk : zS X G nL ws lv k n (pc + 1) (.int x :: st)) : zS X G nL ws lv k n pc (.ref v :: st) := by
  obtain ⟨p, l', e, R, s, m, args, below, meth, c, A, Q⟩ := X
  obtain ⟨rfl, rfl, hx, hb, hml, hown, hts, hnm, hA, hK⟩ := hC
  intro H locs ls hP hD hS hl
  obtain ⟨f, hf⟩ := (hz _ _ _ hK.2.1).2.2.2
  exact va_tlen hx hb hf hS hv hd (kk H locs ls hP hD hS hl)





theorem z_ishr (hC : zC X l G y cc nL fr lo mc ms) {a b v : Int32} (hd : decode cc pc = .ok (.ishr, 1)) (hv : a >>> (b &&& 31) = v) (kk : zS X G nL ws lv k n (pc + 1) (.int v :: st)) : zS X G nL ws lv k n pc (.int b :: .int a :: st) := by
  obtain ⟨p, l', e, R, s, m, args, below, meth, c, A, Q⟩ := X
  obtain ⟨rfl, rfl, hx, hb, hml, hown, hts, hnm, hA, hK⟩ := hC
  intro H locs ls hP hD hS hl
  subst hv
  exact lv_ishr hx hb hd (kk H locs ls hP hD hS hl)

theorem z_acmp_eqT (hC : zC X l G y cc nL fr lo mc ms) {ra rb : Option Nat} {off : Int} (tgt : Nat) (hd : decode cc pc = .ok (.if_acmp .eq off, 3)) (ht : (pc : Int) + off = (tgt : Int)) (h : ra = rb) (kk : zS X G nL ws lv k n tgt st) : zS X G nL ws lv k n pc (va_rf rb :: va_rf ra :: st) := by
  obtain ⟨p, l', e, R, s, m, args, below, meth, c, A, Q⟩ := X
  obtain ⟨rfl, rfl, hx, hb, hml, hown, hts, hnm, hA, hK⟩ := hC
  intro H locs ls hP hD hS hl
  exact lv_acmp_eq hx hb hd ht (fun _ => kk H locs ls hP hD hS hl) (fun h2 => absurd h h2)

theorem z_acmp_eqF (hC : zC X l G y cc nL fr lo mc ms) {ra rb : Option Nat} {off : Int} (tgt : Nat) (hd : decode cc pc = .ok (.if_acmp .eq off, 3)) (ht : (pc : Int) + off = (tgt : Int)) (h : ¬ ra = rb) (kk : zS X G nL ws lv k n (pc + 3) st) : zS X G nL ws lv k n pc (va_rf rb :: va_rf ra :: st) := by
  obtain ⟨p, l', e, R, s, m, args, below, meth, c, A, Q⟩ := X
  obtain ⟨rfl, rfl, hx, hb, hml, hown, hts, hnm, hA, hK⟩ := hC
  intro H locs ls hP hD hS hl
  exact lv_acmp_eq hx hb hd ht (fun h2 => absurd h2 h) (fun _ => kk H locs ls hP hD hS hl)

theorem z_acmp_neT (hC : zC X l G y cc nL fr lo mc ms) {ra rb : Option Nat} {off : Int} (tgt : Nat) (hd : decode cc pc = .ok (.if_acmp .ne off, 3)) (ht : (pc : Int) + off = (tgt : Int)) (h : ¬ ra = rb) (kk : zS X G nL ws lv k n tgt st) : zS X G nL ws lv k n pc (va_rf rb :: va_rf ra :: st) := by
  obtain ⟨p, l', e, R, s, m, args, below, meth, c, A, Q⟩ := X
  obtain ⟨rfl, rfl, hx, hb, hml, hown, hts, hnm, hA, hK⟩ := hC
  intro H locs ls hP hD hS hl
  exact lv_acmp_ne hx hb hd ht (fun _ => kk H locs ls hP hD hS hl) (fun h2 => absurd h2 h)

theorem z_acmp_neF (hC : zC X l G y cc nL fr lo mc ms) {ra rb : Option Nat} {off : Int} (tgt : Nat) (hd : decode cc pc = .ok (.if_acmp .ne off, 3)) (ht : (pc : Int) + off = (tgt : Int)) (h : ra = rb) (kk : zS X G nL ws lv k n (pc + 3) st) : zS X G nL ws lv k n pc (va_rf rb :: va_rf ra :: st) := by
  obtain ⟨p, l', e, R, s, m, args, below, meth, c, A, Q⟩ := X
  obtain ⟨rfl, rfl, hx, hb, hml, hown, hts, hnm, hA, hK⟩ := hC
  intro H locs ls hP hD hS hl
  exact lv_acmp_ne hx hb hd ht (fun h2 => absurd h h2) (fun _ => kk H locs ls hP hD hS hl)

theorem z_ifnullN (hC : zC X l G y cc nL fr lo mc ms) {off : Int} (tgt : Nat) (hd : decode cc pc = .ok (.ifnull off, 3)) (ht : (pc : Int) + off = (tgt : Int)) (kk : zS X G nL ws lv k n tgt st) : zS X G nL ws lv k n pc (.null :: st) := by
  obtain ⟨p, l', e, R, s, m, args, below, meth, c, A, Q⟩ := X
  obtain ⟨rfl, rfl, hx, hb, hml, hown, hts, hnm, hA, hK⟩ := hC
  intro H locs ls hP hD hS hl
  exact lv_ifnullN hx hb hd ht (kk H locs ls hP hD hS hl)

theorem z_ifnull (hC : zC X l G y cc nL fr lo mc ms) {off : Int} {a : Nat} (hd : decode cc pc = .ok (.ifnull off, 3)) (kk : zS X G nL ws lv k n (pc + 3) st) : zS X G nL ws lv k n pc (.ref a :: st) := by
  obtain ⟨p, l', e, R, s, m, args, below, meth, c, A, Q⟩ := X
  obtain ⟨rfl, rfl, hx, hb, hml, hown, hts, hnm, hA, hK⟩ := hC
  intro H locs ls hP hD hS hl
  exact lv_ifnull hx hb hd (kk H locs ls hP hD hS hl)

theorem z_tableIn (hC : zC X l G y cc nL fr lo mc ms) {x : Int32} {dflt lo' hi off : Int} {offs : Array Int} {len : Nat} (tgt : Nat) (hd : decode cc pc = .ok (.tableswitch dflt lo' hi offs, len)) (h1 : ¬ x.toInt < lo') (h2 : ¬ hi < x.toInt) (ho : offs[(x.toInt - lo').toNat]? = some off) (ht : (pc : Int) + off = (tgt : Int)) (kk : zS X G nL ws lv k n tgt st) : zS X G nL ws lv k n pc (.int x :: st) := by
  obtain ⟨p, l', e, R, s, m, args, below, meth, c, A, Q⟩ := X
  obtain ⟨rfl, rfl, hx, hb, hml, hown, hts, hnm, hA, hK⟩ := hC
  intro H locs ls hP hD hS hl
  exact lv_tableIn hx hb hd h1 h2 ho ht (kk H locs ls hP hD hS hl)

theorem z_tableOut (hC : zC X l G y cc nL fr lo mc ms) {x : Int32} {dflt lo' hi : Int} {offs : Array Int} {len : Nat} (tgt : Nat) (hd : decode cc pc = .ok (.tableswitch dflt lo' hi offs, len)) (h : x.toInt < lo' ∨ hi < x.toInt) (ht : (pc : Int) + dflt = (tgt : Int)) (kk : zS X G nL ws lv k n tgt st) : zS X G nL ws lv k n pc (.int x :: st) := by
  obtain ⟨p, l', e, R, s, m, args, below, meth, c, A, Q⟩ := X
  obtain ⟨rfl, rfl, hx, hb, hml, hown, hts, hnm, hA, hK⟩ := hC
  intro H locs ls hP hD hS hl
  exact lv_tableOut hx hb hd h ht (kk H locs ls hP hD hS hl)

theorem z_newq (hC : zC X l G y cc nL fr lo mc ms) {i : Int32} {idx N : Nat} (hd : decode cc pc = .ok (.anewarray idx, 3)) (hw : Cond.classLink y.cls idx "TemplateHouseModel$Group" ∈ zT) (hi : ¬ i < 0) (hN : i.toNatClampNeg = N) (hb1 : N * 4 ≤ 536870912) (hk : k + 1 ≤ mc) (hn : n + N ≤ ms) (kk : ∀ a : Nat, zS X G nL (ws ++ [(a, .inl (G.2.1 5, N, .inr (.inr (.inr (.inr (fun _ => none))))))]) lv (k + 1) (n + N) (pc + 3) (.ref a :: st)) : zS X G nL ws lv k n pc (.int i :: st) := by
  obtain ⟨p, l', e, R, s, m, args, below, meth, c, A, Q⟩ := X
  obtain ⟨rfl, rfl, hx, hb, hml, hown, hts, hnm, hA, hK⟩ := hC
  intro H locs ls hP hD hS hl
  refine va_newq (N' := N) (C := "TemplateHouseModel$Group") hx hb hown (hts _ hw) hK.2.2.1 hK.1 hP hD hS hA hi hN hb1 hk hn hd (fun q cA H1 hK1 hP1 hD1 hS1 => ?_)
  obtain ⟨_, _, _, _, _, e1⟩ := (hK1.2 6 (cA, .object "TemplateHouseModel$Group") rfl).2
  obtain ⟨_, _, _, _, _, e2⟩ := (hK.1.2 5 (G.2.1 5, .object "TemplateHouseModel$Group") rfl).2
  have e3 : cA = G.2.1 5 := Option.some.inj (e1.symm.trans e2)
  subst e3
  exact kk q H1 locs ls hP1 hD1 hS1 hl

theorem z_aald5 (hC : zC X l G y cc nL fr lo mc ms) (q : Nat) {a N v : Nat} {f : Nat → Option Nat} {i : Int32} (hd : decode cc pc = .ok (.aaload, 1)) (he : ws[q]? = some (a, .inl (G.2.1 5, N, .inr (.inr (.inr (.inr f)))))) (hi : vp_in i N) (hv : f i.toNatClampNeg = some v) (kk : zS X G nL ws lv k n (pc + 1) (.ref v :: st)) : zS X G nL ws lv k n pc (.int i :: .ref a :: st) := by
  obtain ⟨p, l', e, R, s, m, args, below, meth, c, A, Q⟩ := X
  obtain ⟨rfl, rfl, hx, hb, hml, hown, hts, hnm, hA, hK⟩ := hC
  intro H locs ls hP hD hS hl
  refine va_aldq (D := G.1) hx hb hK.1 hP q 5 he rfl hi hd ?_
  rw [hv]
  exact kk H locs ls hP hD hS hl

theorem z_aald4 (hC : zC X l G y cc nL fr lo mc ms) (q : Nat) {a N v : Nat} {f : Nat → Option Nat} {i : Int32} (hd : decode cc pc = .ok (.aaload, 1)) (he : ws[q]? = some (a, .inl (G.2.1 4, N, .inr (.inr (.inr (.inr f)))))) (hi : vp_in i N) (hv : f i.toNatClampNeg = some v) (kk : zS X G nL ws lv k n (pc + 1) (.ref v :: st)) : zS X G nL ws lv k n pc (.int i :: .ref a :: st) := by
  obtain ⟨p, l', e, R, s, m, args, below, meth, c, A, Q⟩ := X
  obtain ⟨rfl, rfl, hx, hb, hml, hown, hts, hnm, hA, hK⟩ := hC
  intro H locs ls hP hD hS hl
  have hlt : i.toNatClampNeg < N := Nat.not_le.mp fun q => hi (Or.inr q)
  refine W.aald (v := va_rf (f i.toNatClampNeg)) (ty := .array .byte) hx hb (hP q _ he) ((hK.1.2 4 (G.2.1 4, .array .byte) rfl).1 N (fun j => va_rf (f j))) rfl (fun q => by cases q) (by show ¬ (i < 0 ∨ (arrV _ _ _).slots.size ≤ _); rw [arrV_size]; exact hi) (by show (arrV _ _ _).slots[_]? = _; rw [arrV_read _ _ hlt]) rfl rfl hd ?_
  rw [hv]
  exact kk H locs ls hP hD hS hl

theorem z_aast5 (hC : zC X l G y cc nL fr lo mc ms) (q qk : Nat) {a N v : Nat} {f : Nat → Option Nat} {vs : List Value} {i : Int32} (ws' : va_W) (hd : decode cc pc = .ok (.aastore, 1)) (he : ws[q]? = some (a, .inl (G.2.1 5, N, .inr (.inr (.inr (.inr f)))))) (hv : ws[qk]? = some (v, .inr (13, vs))) (hi : vp_in i N) (hws : ws.set q (a, .inl (G.2.1 5, N, .inr (.inr (.inr (.inr (va_up f i.toNatClampNeg (some v))))))) = ws') (kk : zS X G nL ws' lv k n (pc + 1) st) : zS X G nL ws lv k n pc (.ref v :: .int i :: .ref a :: st) := by
  obtain ⟨p, l', e, R, s, m, args, below, meth, c, A, Q⟩ := X
  obtain ⟨rfl, rfl, hx, hb, hml, hown, hts, hnm, hA, hK⟩ := hC
  intro H locs ls hP hD hS hl
  subst hws
  exact va_astq (D := G.1) hx hb hK.1 hP hD hS q 5 qk 13 (r := (RX13, TX13, 39)) he rfl hv rfl hi hd (fun H locs hP hD hS => kk H locs ls hP hD hS hl)

theorem z_mna (hC : zC X l G y cc nL fr lo mc ms) {i k0 : Int32} {idx N K : Nat} (hd : decode cc pc = .ok (.multianewarray idx 2, 4)) (hw : Cond.classLink y.cls idx "[[B" ∈ zT) (hi : ¬ i < 0) (hk0 : ¬ k0 < 0) (hN : i.toNatClampNeg = N) (hKk : k0.toNatClampNeg = K) (hb1 : N * 4 ≤ 536870912) (hb2 : K * componentBytes .byte ≤ 536870912) (hb3 : K ≤ 536870912) (hk : k + (1 + N) ≤ mc) (hn : n + (N + N * K) ≤ ms) (kk : ∀ (a : Nat) (r : Nat → Nat), zS X G nL (ws ++ [(a, .inl (G.2.1 4, N, .inr (.inr (.inr (.inr (fun i => if i < N then some (r i) else none))))))]) lv (k + 1 + N) (n + N + N * K) (pc + 4) (.ref a :: st)) : zS X G nL ws lv k n pc (.int k0 :: .int i :: st) := by
  obtain ⟨p, l', e, R, s, m, args, below, meth, c, A, Q⟩ := X
  obtain ⟨rfl, rfl, hx, hb, hml, hown, hts, hnm, hA, hK⟩ := hC
  intro H locs ls hP hD hS hl
  subst hN hKk
  intro T hT Xs
  obtain ⟨vm₁, cA, comp, -, fA, fC, hO, -, X', step⟩ := Jvm.Stand.multianewarray2F Xs hx (own := y.cls) (index := idx) (ty := .byte) hown (hts _ hw) hK.2.2.2.1 (hts _ zwA1) (g := F0 m pc ls (.int k0 :: .int i :: st)) rfl (by rw [hb]; exact hd) rfl hi hk0 hb1 hb2 hb3 rfl rfl hk hn
  have e2 := (hK.1.2 4 (G.2.1 4, .array .byte) rfl).2
  have e3 : cA = G.2.1 4 := Option.some.inj (fA.symm.trans e2)
  subst e3
  have hTh : (T.setVm vm₁).heap = H := hT
  generalize hF : Jvm.Free.Multi.fill (T.setVm vm₁) (G.2.1 4) comp i.toNatClampNeg k0.toNatClampNeg (defaultValue .byte) i.toNatClampNeg = F at X' step
  obtain ⟨f1, f2, -, -⟩ := Jvm.Free.Multi.fill_facts (T.setVm vm₁) (G.2.1 4) comp i.toNatClampNeg k0.toNatClampNeg (defaultValue .byte) i.toNatClampNeg
  rw [hF, hTh] at f1 f2
  have hold : ∀ x : Nat, x < H.size → F.heap[x]? = H[x]? := fun x hx => by
    have := Jvm.Free.Multi.fill_old (T.setVm vm₁) (G.2.1 4) comp i.toNatClampNeg k0.toNatClampNeg (defaultValue .byte) (a := x) (by rw [hTh]; exact hx) i.toNatClampNeg
    rw [hF, hTh] at this
    exact this
  rw [zouter, ← vp_cell_q] at f2
  have hP0 : va_P G.1 zcl ws F.heap := hP.kept (fun k9 x hx => hold x.1 ((hP k9 x hx).lt))
  have hP1 := hP0.app (w2 := [(H.size, .inl (G.2.1 4, i.toNatClampNeg, .inr (.inr (.inr (.inr (fun j => if j < i.toNatClampNeg then some (H.size + 1 + j) else none))))))]) (fun k9 x hx => by
    have h0 : k9 < 1 := (List.getElem?_eq_some_iff.mp hx).1
    rw [show k9 = 0 by omega] at hx
    cases hx
    exact f2)
  have hD1 := hD.push (e := .inl (G.2.1 4, i.toNatClampNeg, .inr (.inr (.inr (.inr (fun j => if j < i.toNatClampNeg then some (H.size + 1 + j) else none)))))) hP rfl (hA _ hS.1)
  obtain ⟨t, a1, b1⟩ := kk H.size (fun j => H.size + 1 + j) F.heap _ ls hP1 hD1 ⟨by rw [f1]; have := hS.1; omega, fun x h1 h2 => (hold x (Nat.lt_of_lt_of_le h1 hS.1)).trans (hS.2.1 x h1 h2), hS.2.2⟩ hl F rfl X'
  refine ⟨t, step t ?_, b1⟩
  have e : T.heap.size = H.size := by rw [hT]
  rw [e]
  exact a1

theorem z_callStr {y' : MethodName} {b' : ByteArray} {nL' fr' lo' idx a v len : Nat} {x : Int32} {ty : FieldType} {st : List Value} (hC : zC X l G y cc nL fr lo mc ms) (hz : ∀ (A : Nat → Prop) (U : State) (H : Heap), zNh G.2.2 A U H → zStr a v len A U H) (hM : zMi l G y' b' nL' ty fr' lo' 0 0 [.ref a] [] (fun r w => r = x ∧ w = [])) (hDe : zDv y' b' nL' (some ty) 0) (hS0 : y'.cls = "java/lang/String") (hd : decode cc pc = .ok (.invokevirtual idx, 3)) (hw : Cond.methodLink y.cls idx y' ∈ zT) (hk : k ≤ mc) (hn : n ≤ ms) (hfr : fr' + 1 ≤ fr) (hlo : 8 + (nL' + 11) + lo' ≤ lo) (hm : (st.map fun v => v.category).sum ≤ 8) (kk : zS X G nL ws lv k n (pc + 3) (.int x :: st)) : zS X G nL ws lv k n pc (.ref a :: st) := by
  obtain ⟨p, l', e, R, s, m, args, below, meth, c, A, Q⟩ := X
  obtain ⟨rfl, rfl, hx, hb, hml, hown, hts, hnm, hA, hK⟩ := hC
  intro H locs ls hP hD hS hl
  have hIC : ([] : List Nat).map (fun i => ws[i]?) = ([] : va_W).map some := rfl
  have hPc : va_P G.1 zcl [] H := zsubP hP hIC
  have hDc : va_D A [] := hD.sub [] rfl hIC
  have hFc := va_free hD hS hA [] hIC
  have hrec : ∃ cell : Cell, H[a]? = some cell ∧ cell.vm.isStatics = false ∧ s.vm.findClass y'.cls = some cell.cls := by
    obtain ⟨cell, h1, h2, h3, -⟩ := ((hz _ _ _ hK.2.1).1).kept hS.2.1
    exact ⟨cell, h1, h2, by rw [hS0]; exact h3⟩
  have hIR : (List.range ws.length).map (fun i => ws[i]?) = ws.map some := by
    apply List.ext_getElem
    · simp
    · intro i h1 h2
      simp at h1
      simp [h1]
  refine va_calli (va_runV (As := []) (rest := st) ⟨hx, hb, hml, hown, hts⟩ (hM H.size) (cwV 0 hts (zDv.good hDe hw) rfl rfl rfl ⟨rfl, hDe.1.1.1, hDe.1.1.2.1, hDe.1.1.2.2⟩ ⟨hfr, hlo⟩) ⟨zPc.blind, hrec, fun U hU hW => zPc.pre (ws := ws) hK hS hFc hPc hDc hU hW⟩ rfl rfl hl.1 rfl (lv_room hm) hd ⟨hk, hn⟩) hS (fun q _ h => hFc q h) hFc (fun r w t H1 locs1 ht hvm hp hB hz1 hk1 hS1 => ?_)
  obtain ⟨rfl, rfl⟩ := hp
  refine kk H1 locs1 ls (hP.kept (fun i q hq => hk1 q.1 ((hP i q hq).lt) (fun h => ?_))) hD hS1 hl
  rcases h with ⟨i, e, h⟩ | h
  · simp at h
  · exact absurd ((hP _ q hq).lt) (Nat.not_lt.mpr h)

end ZMORE
