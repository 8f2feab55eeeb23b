section ZI
variable {X : zX} {l : Launch} {G : zG} {y : MethodName} {cc : ByteArray} {nL fr lo mc ms : Nat} {ws : va_W} {lv : List (Nat × Value)} {k n pc : Nat} {st : List Value}

theorem z_iconst (hC : zC X l G y cc nL fr lo mc ms) {z : Int} {v : Int32} (hd : decode cc pc = .ok (.iconst z, 1)) (hv : Int32.ofInt z = v) (kk : zS X G nL ws lv k n (pc + 1) (.int v :: st)) : zS X G nL ws lv k n pc st := by
  obtain ⟨p, l', e, R, s, m, args, below, meth, c, A, Q⟩ := X
  obtain ⟨rfl, rfl, hx, hb, hml, hown, hts, hnm, hA, hK⟩ := hC
  intro H locs ls hP hD hS hl
  exact lv_iconst hx hb hd hv (kk H locs ls hP hD hS hl)

theorem z_bipush (hC : zC X l G y cc nL fr lo mc ms) {z : Int} {v : Int32} (hd : decode cc pc = .ok (.bipush z, 2)) (hv : (Int8.ofInt z).toInt32 = v) (kk : zS X G nL ws lv k n (pc + 2) (.int v :: st)) : zS X G nL ws lv k n pc st := by
  obtain ⟨p, l', e, R, s, m, args, below, meth, c, A, Q⟩ := X
  obtain ⟨rfl, rfl, hx, hb, hml, hown, hts, hnm, hA, hK⟩ := hC
  intro H locs ls hP hD hS hl
  exact lv_bipush hx hb hd hv (kk H locs ls hP hD hS hl)

theorem z_sipush (hC : zC X l G y cc nL fr lo mc ms) {z : Int} {v : Int32} (hd : decode cc pc = .ok (.sipush z, 3)) (hv : (Int16.ofInt z).toInt32 = v) (kk : zS X G nL ws lv k n (pc + 3) (.int v :: st)) : zS X G nL ws lv k n pc st := by
  obtain ⟨p, l', e, R, s, m, args, below, meth, c, A, Q⟩ := X
  obtain ⟨rfl, rfl, hx, hb, hml, hown, hts, hnm, hA, hK⟩ := hC
  intro H locs ls hP hD hS hl
  exact lv_sipush hx hb hd hv (kk H locs ls hP hD hS hl)

theorem z_lconst (hC : zC X l G y cc nL fr lo mc ms) {z : Fin 2} {v : Int64} (hd : decode cc pc = .ok (.lconst z, 1)) (hv : Int64.ofNat (z : Nat) = v) (kk : zS X G nL ws lv k n (pc + 1) (.long v :: st)) : zS X G nL ws lv k n pc st := by
  obtain ⟨p, l', e, R, s, m, args, below, meth, c, A, Q⟩ := X
  obtain ⟨rfl, rfl, hx, hb, hml, hown, hts, hnm, hA, hK⟩ := hC
  intro H locs ls hP hD hS hl
  exact lv_lconst hx hb hd hv (kk H locs ls hP hD hS hl)

theorem z_iload (hC : zC X l G y cc nL fr lo mc ms) {i : Nat} {v : Int32} (q : Nat) (hd : decode cc pc = .ok (.iload i, 2)) (hq : lv[q]? = some (i, .int v)) (kk : zS X G nL ws lv k n (pc + 2) (.int v :: st)) : zS X G nL ws lv k n pc st := by
  obtain ⟨p, l', e, R, s, m, args, below, meth, c, A, Q⟩ := X
  obtain ⟨rfl, rfl, hx, hb, hml, hown, hts, hnm, hA, hK⟩ := hC
  intro H locs ls hP hD hS hl
  exact lv_iload hx hb hd (lv_at hl q hq) (kk H locs ls hP hD hS hl)

theorem z_iload_n (hC : zC X l G y cc nL fr lo mc ms) {f : Fin 4} {i : Nat} {v : Int32} (q : Nat) (hd : decode cc pc = .ok (.iload_n f, 1)) (hf : (f : Nat) = i) (hq : lv[q]? = some (i, .int v)) (kk : zS X G nL ws lv k n (pc + 1) (.int v :: st)) : zS X G nL ws lv k n pc st := by
  obtain ⟨p, l', e, R, s, m, args, below, meth, c, A, Q⟩ := X
  obtain ⟨rfl, rfl, hx, hb, hml, hown, hts, hnm, hA, hK⟩ := hC
  intro H locs ls hP hD hS hl
  exact lv_iload_n hx hb hd hf (lv_at hl q hq) (kk H locs ls hP hD hS hl)

theorem z_aload (hC : zC X l G y cc nL fr lo mc ms) {i : Nat} {v : Nat} (q : Nat) (hd : decode cc pc = .ok (.aload i, 2)) (hq : lv[q]? = some (i, .ref v)) (kk : zS X G nL ws lv k n (pc + 2) (.ref v :: st)) : zS X G nL ws lv k n pc st := by
  obtain ⟨p, l', e, R, s, m, args, below, meth, c, A, Q⟩ := X
  obtain ⟨rfl, rfl, hx, hb, hml, hown, hts, hnm, hA, hK⟩ := hC
  intro H locs ls hP hD hS hl
  exact lv_aload hx hb hd (lv_at hl q hq) (kk H locs ls hP hD hS hl)

theorem z_aload_n (hC : zC X l G y cc nL fr lo mc ms) {f : Fin 4} {i : Nat} {v : Nat} (q : Nat) (hd : decode cc pc = .ok (.aload_n f, 1)) (hf : (f : Nat) = i) (hq : lv[q]? = some (i, .ref v)) (kk : zS X G nL ws lv k n (pc + 1) (.ref v :: st)) : zS X G nL ws lv k n pc st := by
  obtain ⟨p, l', e, R, s, m, args, below, meth, c, A, Q⟩ := X
  obtain ⟨rfl, rfl, hx, hb, hml, hown, hts, hnm, hA, hK⟩ := hC
  intro H locs ls hP hD hS hl
  exact lv_aload_n hx hb hd hf (lv_at hl q hq) (kk H locs ls hP hD hS hl)

theorem z_lload_n (hC : zC X l G y cc nL fr lo mc ms) {f : Fin 4} {i : Nat} {v : Int64} (q : Nat) (hd : decode cc pc = .ok (.lload_n f, 1)) (hf : (f : Nat) = i) (hq : lv[q]? = some (i, .long v)) (kk : zS X G nL ws lv k n (pc + 1) (.long v :: st)) : zS X G nL ws lv k n pc st := by
  obtain ⟨p, l', e, R, s, m, args, below, meth, c, A, Q⟩ := X
  obtain ⟨rfl, rfl, hx, hb, hml, hown, hts, hnm, hA, hK⟩ := hC
  intro H locs ls hP hD hS hl
  exact lv_lload_n hx hb hd hf (lv_at hl q hq) (kk H locs ls hP hD hS hl)

theorem z_istore (hC : zC X l G y cc nL fr lo mc ms) {i : Nat} {v : Int32} {lv' : List (Nat × Value)} (hd : decode cc pc = .ok (.istore i, 2)) (hi : i < nL) (hq : (i, Value.int v) :: lv.filter (fun q => !(q.1 == i) && !(q.1 + 1 == i && q.2.category == 2)) = lv') (kk : zS X G nL ws lv' k n (pc + 2) st) : zS X G nL ws lv k n pc (.int v :: st) := by
  obtain ⟨p, l', e, R, s, m, args, below, meth, c, A, Q⟩ := X
  obtain ⟨rfl, rfl, hx, hb, hml, hown, hts, hnm, hA, hK⟩ := hC
  intro H locs ls hP hD hS hl
  exact lv_istore hx hb hd hl hi hq (fun ls hl => kk H locs ls hP hD hS hl)

theorem z_istore_n (hC : zC X l G y cc nL fr lo mc ms) {f : Fin 4} {i : Nat} {v : Int32} {lv' : List (Nat × Value)} (hd : decode cc pc = .ok (.istore_n f, 1)) (hf : (f : Nat) = i) (hi : i < nL) (hq : (i, Value.int v) :: lv.filter (fun q => !(q.1 == i) && !(q.1 + 1 == i && q.2.category == 2)) = lv') (kk : zS X G nL ws lv' k n (pc + 1) st) : zS X G nL ws lv k n pc (.int v :: st) := by
  obtain ⟨p, l', e, R, s, m, args, below, meth, c, A, Q⟩ := X
  obtain ⟨rfl, rfl, hx, hb, hml, hown, hts, hnm, hA, hK⟩ := hC
  intro H locs ls hP hD hS hl
  exact lv_istore_n hx hb hd hf hl hi hq (fun ls hl => kk H locs ls hP hD hS hl)

theorem z_astore (hC : zC X l G y cc nL fr lo mc ms) {i : Nat} {v : Nat} {lv' : List (Nat × Value)} (hd : decode cc pc = .ok (.astore i, 2)) (hi : i < nL) (hq : (i, Value.ref v) :: lv.filter (fun q => !(q.1 == i) && !(q.1 + 1 == i && q.2.category == 2)) = lv') (kk : zS X G nL ws lv' k n (pc + 2) st) : zS X G nL ws lv k n pc (.ref v :: st) := by
  obtain ⟨p, l', e, R, s, m, args, below, meth, c, A, Q⟩ := X
  obtain ⟨rfl, rfl, hx, hb, hml, hown, hts, hnm, hA, hK⟩ := hC
  intro H locs ls hP hD hS hl
  exact lv_astore hx hb hd hl hi hq (fun ls hl => kk H locs ls hP hD hS hl)

theorem z_astore_n (hC : zC X l G y cc nL fr lo mc ms) {f : Fin 4} {i : Nat} {v : Nat} {lv' : List (Nat × Value)} (hd : decode cc pc = .ok (.astore_n f, 1)) (hf : (f : Nat) = i) (hi : i < nL) (hq : (i, Value.ref v) :: lv.filter (fun q => !(q.1 == i) && !(q.1 + 1 == i && q.2.category == 2)) = lv') (kk : zS X G nL ws lv' k n (pc + 1) st) : zS X G nL ws lv k n pc (.ref v :: st) := by
  obtain ⟨p, l', e, R, s, m, args, below, meth, c, A, Q⟩ := X
  obtain ⟨rfl, rfl, hx, hb, hml, hown, hts, hnm, hA, hK⟩ := hC
  intro H locs ls hP hD hS hl
  exact lv_astore_n hx hb hd hf hl hi hq (fun ls hl => kk H locs ls hP hD hS hl)

theorem z_iinc (hC : zC X l G y cc nL fr lo mc ms) {i : Nat} {z : Int} {x v : Int32} {lv' : List (Nat × Value)} (q : Nat) (hd : decode cc pc = .ok (.iinc i z, 3)) (hk : lv[q]? = some (i, .int x)) (hv : x + Int32.ofInt z = v) (hi : i < nL) (hq : (i, Value.int v) :: lv.filter (fun q => !(q.1 == i) && !(q.1 + 1 == i && q.2.category == 2)) = lv') (kk : zS X G nL ws lv' k n (pc + 3) st) : zS X G nL ws lv k n pc st := by
  obtain ⟨p, l', e, R, s, m, args, below, meth, c, A, Q⟩ := X
  obtain ⟨rfl, rfl, hx, hb, hml, hown, hts, hnm, hA, hK⟩ := hC
  intro H locs ls hP hD hS hl
  exact lv_iinc hx hb hd hl hk hv hi hq (fun ls hl => kk H locs ls hP hD hS hl)

theorem z_dup (hC : zC X l G y cc nL fr lo mc ms) {v : Value} (hd : decode cc pc = .ok (.dup, 1)) (hv : v.category = 1) (kk : zS X G nL ws lv k n (pc + 1) (v :: v :: st)) : zS X G nL ws lv k n pc (v :: st) := by
  obtain ⟨p, l', e, R, s, m, args, below, meth, c, A, Q⟩ := X
  obtain ⟨rfl, rfl, hx, hb, hml, hown, hts, hnm, hA, hK⟩ := hC
  intro H locs ls hP hD hS hl
  exact lv_dup hx hb hd hv (kk H locs ls hP hD hS hl)

theorem z_pop (hC : zC X l G y cc nL fr lo mc ms) {v : Value} (hd : decode cc pc = .ok (.pop, 1)) (hv : v.category = 1) (kk : zS X G nL ws lv k n (pc + 1) st) : zS X G nL ws lv k n pc (v :: st) := by
  obtain ⟨p, l', e, R, s, m, args, below, meth, c, A, Q⟩ := X
  obtain ⟨rfl, rfl, hx, hb, hml, hown, hts, hnm, hA, hK⟩ := hC
  intro H locs ls hP hD hS hl
  exact lv_pop hx hb hd hv (kk H locs ls hP hD hS hl)

theorem z_iadd (hC : zC X l G y cc nL fr lo mc ms) {a b v : Int32} (hd : decode cc pc = .ok (.iadd, 1)) (hv : a + b = v) (kk : zS X G nL ws lv k n (pc + 1) (.int v :: st)) : zS X G nL ws lv k n pc (.int b :: .int a :: st) := by
  obtain ⟨p, l', e, R, s, m, args, below, meth, c, A, Q⟩ := X
  obtain ⟨rfl, rfl, hx, hb, hml, hown, hts, hnm, hA, hK⟩ := hC
  intro H locs ls hP hD hS hl
  subst hv
  exact lv_iadd hx hb hd (kk H locs ls hP hD hS hl)

theorem z_isub (hC : zC X l G y cc nL fr lo mc ms) {a b v : Int32} (hd : decode cc pc = .ok (.isub, 1)) (hv : a - b = v) (kk : zS X G nL ws lv k n (pc + 1) (.int v :: st)) : zS X G nL ws lv k n pc (.int b :: .int a :: st) := by
  obtain ⟨p, l', e, R, s, m, args, below, meth, c, A, Q⟩ := X
  obtain ⟨rfl, rfl, hx, hb, hml, hown, hts, hnm, hA, hK⟩ := hC
  intro H locs ls hP hD hS hl
  subst hv
  exact lv_isub hx hb hd (kk H locs ls hP hD hS hl)

theorem z_imul (hC : zC X l G y cc nL fr lo mc ms) {a b v : Int32} (hd : decode cc pc = .ok (.imul, 1)) (hv : a * b = v) (kk : zS X G nL ws lv k n (pc + 1) (.int v :: st)) : zS X G nL ws lv k n pc (.int b :: .int a :: st) := by
  obtain ⟨p, l', e, R, s, m, args, below, meth, c, A, Q⟩ := X
  obtain ⟨rfl, rfl, hx, hb, hml, hown, hts, hnm, hA, hK⟩ := hC
  intro H locs ls hP hD hS hl
  subst hv
  exact lv_imul hx hb hd (kk H locs ls hP hD hS hl)

theorem z_iand (hC : zC X l G y cc nL fr lo mc ms) {a b v : Int32} (hd : decode cc pc = .ok (.iand, 1)) (hv : a &&& b = v) (kk : zS X G nL ws lv k n (pc + 1) (.int v :: st)) : zS X G nL ws lv k n pc (.int b :: .int a :: st) := by
  obtain ⟨p, l', e, R, s, m, args, below, meth, c, A, Q⟩ := X
  obtain ⟨rfl, rfl, hx, hb, hml, hown, hts, hnm, hA, hK⟩ := hC
  intro H locs ls hP hD hS hl
  subst hv
  exact lv_iand hx hb hd (kk H locs ls hP hD hS hl)

theorem z_ixor (hC : zC X l G y cc nL fr lo mc ms) {a b v : Int32} (hd : decode cc pc = .ok (.ixor, 1)) (hv : a ^^^ b = v) (kk : zS X G nL ws lv k n (pc + 1) (.int v :: st)) : zS X G nL ws lv k n pc (.int b :: .int a :: st) := by
  obtain ⟨p, l', e, R, s, m, args, below, meth, c, A, Q⟩ := X
  obtain ⟨rfl, rfl, hx, hb, hml, hown, hts, hnm, hA, hK⟩ := hC
  intro H locs ls hP hD hS hl
  subst hv
  exact lv_ixor hx hb hd (kk H locs ls hP hD hS hl)

theorem z_ior (hC : zC X l G y cc nL fr lo mc ms) {a b v : Int32} (hd : decode cc pc = .ok (.ior, 1)) (hv : a ||| b = v) (kk : zS X G nL ws lv k n (pc + 1) (.int v :: st)) : zS X G nL ws lv k n pc (.int b :: .int a :: st) := by
  obtain ⟨p, l', e, R, s, m, args, below, meth, c, A, Q⟩ := X
  obtain ⟨rfl, rfl, hx, hb, hml, hown, hts, hnm, hA, hK⟩ := hC
  intro H locs ls hP hD hS hl
  subst hv
  exact lv_ior hx hb hd (kk H locs ls hP hD hS hl)

theorem z_iushr (hC : zC X l G y cc nL fr lo mc ms) {a b v : Int32} (hd : decode cc pc = .ok (.iushr, 1)) (hv : (a.toUInt32 >>> (b.toUInt32 &&& Int32.toUInt32 31)).toInt32 = v) (kk : zS X G nL ws lv k n (pc + 1) (.int v :: st)) : zS X G nL ws lv k n pc (.int b :: .int a :: st) := by
  obtain ⟨p, l', e, R, s, m, args, below, meth, c, A, Q⟩ := X
  obtain ⟨rfl, rfl, hx, hb, hml, hown, hts, hnm, hA, hK⟩ := hC
  intro H locs ls hP hD hS hl
  exact lv_iushr hx hb hd hv (kk H locs ls hP hD hS hl)

theorem z_i2b (hC : zC X l G y cc nL fr lo mc ms) {a v : Int32} (hd : decode cc pc = .ok (.i2b, 1)) (hv : a.toInt8.toInt32 = v) (kk : zS X G nL ws lv k n (pc + 1) (.int v :: st)) : zS X G nL ws lv k n pc (.int a :: st) := by
  obtain ⟨p, l', e, R, s, m, args, below, meth, c, A, Q⟩ := X
  obtain ⟨rfl, rfl, hx, hb, hml, hown, hts, hnm, hA, hK⟩ := hC
  intro H locs ls hP hD hS hl
  exact lv_i2b hx hb hd hv (kk H locs ls hP hD hS hl)

theorem z_goto (hC : zC X l G y cc nL fr lo mc ms) {off : Int} (tgt : Nat) (hd : decode cc pc = .ok (.goto off, 3)) (ht : (pc : Int) + off = (tgt : Int)) (kk : zS X G nL ws lv k n tgt st) : zS X G nL ws lv k n pc st := by
  obtain ⟨p, l', e, R, s, m, args, below, meth, c, A, Q⟩ := X
  obtain ⟨rfl, rfl, hx, hb, hml, hown, hts, hnm, hA, hK⟩ := hC
  intro H locs ls hP hD hS hl
  exact lv_goto hx hb hd ht (kk H locs ls hP hD hS hl)

theorem z_icmp_eq (hC : zC X l G y cc nL fr lo mc ms) {a b : Int32} {off : Int} (tgt : Nat) (hd : decode cc pc = .ok (.if_icmp .eq off, 3)) (ht : (pc : Int) + off = (tgt : Int)) (kt : a = b → zS X G nL ws lv k n tgt st) (kf : ¬ a = b → zS X G nL ws lv k n (pc + 3) st) : zS X G nL ws lv k n pc (.int b :: .int a :: st) := by
  obtain ⟨p, l', e, R, s, m, args, below, meth, c, A, Q⟩ := X
  obtain ⟨rfl, rfl, hx, hb, hml, hown, hts, hnm, hA, hK⟩ := hC
  intro H locs ls hP hD hS hl
  exact lv_icmp_eq hx hb hd ht (fun h => kt h H locs ls hP hD hS hl) (fun h => kf h H locs ls hP hD hS hl)

theorem z_if_eq (hC : zC X l G y cc nL fr lo mc ms) {a : Int32} {off : Int} (tgt : Nat) (hd : decode cc pc = .ok (.ifCond .eq off, 3)) (ht : (pc : Int) + off = (tgt : Int)) (kt : a = 0 → zS X G nL ws lv k n tgt st) (kf : ¬ a = 0 → zS X G nL ws lv k n (pc + 3) st) : zS X G nL ws lv k n pc (.int a :: st) := by
  obtain ⟨p, l', e, R, s, m, args, below, meth, c, A, Q⟩ := X
  obtain ⟨rfl, rfl, hx, hb, hml, hown, hts, hnm, hA, hK⟩ := hC
  intro H locs ls hP hD hS hl
  exact lv_if_eq hx hb hd ht (fun h => kt h H locs ls hP hD hS hl) (fun h => kf h H locs ls hP hD hS hl)

theorem z_icmp_eqT (hC : zC X l G y cc nL fr lo mc ms) {a b : Int32} {off : Int} (tgt : Nat) (hd : decode cc pc = .ok (.if_icmp .eq off, 3)) (ht : (pc : Int) + off = (tgt : Int)) (h : a = b) (kk : zS X G nL ws lv k n tgt st) : zS X G nL ws lv k n pc (.int b :: .int a :: st) := z_icmp_eq hC tgt hd ht (fun _ => kk) (fun h2 => absurd h h2)

theorem z_icmp_eqF (hC : zC X l G y cc nL fr lo mc ms) {a b : Int32} {off : Int} (tgt : Nat) (hd : decode cc pc = .ok (.if_icmp .eq off, 3)) (ht : (pc : Int) + off = (tgt : Int)) (h : ¬ a = b) (kk : zS X G nL ws lv k n (pc + 3) st) : zS X G nL ws lv k n pc (.int b :: .int a :: st) := z_icmp_eq hC tgt hd ht (fun h2 => absurd h2 h) (fun _ => kk)

theorem z_if_eqT (hC : zC X l G y cc nL fr lo mc ms) {a : Int32} {off : Int} (tgt : Nat) (hd : decode cc pc = .ok (.ifCond .eq off, 3)) (ht : (pc : Int) + off = (tgt : Int)) (h : a = 0) (kk : zS X G nL ws lv k n tgt st) : zS X G nL ws lv k n pc (.int a :: st) := z_if_eq hC tgt hd ht (fun _ => kk) (fun h2 => absurd h h2)

theorem z_if_eqF (hC : zC X l G y cc nL fr lo mc ms) {a : Int32} {off : Int} (tgt : Nat) (hd : decode cc pc = .ok (.ifCond .eq off, 3)) (ht : (pc : Int) + off = (tgt : Int)) (h : ¬ a = 0) (kk : zS X G nL ws lv k n (pc + 3) st) : zS X G nL ws lv k n pc (.int a :: st) := z_if_eq hC tgt hd ht (fun h2 => absurd h2 h) (fun _ => kk)

theorem z_icmp_ne (hC : zC X l G y cc nL fr lo mc ms) {a b : Int32} {off : Int} (tgt : Nat) (hd : decode cc pc = .ok (.if_icmp .ne off, 3)) (ht : (pc : Int) + off = (tgt : Int)) (kt : ¬ a = b → zS X G nL ws lv k n tgt st) (kf : a = b → zS X G nL ws lv k n (pc + 3) st) : zS X G nL ws lv k n pc (.int b :: .int a :: st) := by
  obtain ⟨p, l', e, R, s, m, args, below, meth, c, A, Q⟩ := X
  obtain ⟨rfl, rfl, hx, hb, hml, hown, hts, hnm, hA, hK⟩ := hC
  intro H locs ls hP hD hS hl
  exact lv_icmp_ne hx hb hd ht (fun h => kt h H locs ls hP hD hS hl) (fun h => kf h H locs ls hP hD hS hl)

theorem z_if_ne (hC : zC X l G y cc nL fr lo mc ms) {a : Int32} {off : Int} (tgt : Nat) (hd : decode cc pc = .ok (.ifCond .ne off, 3)) (ht : (pc : Int) + off = (tgt : Int)) (kt : ¬ a = 0 → zS X G nL ws lv k n tgt st) (kf : a = 0 → zS X G nL ws lv k n (pc + 3) st) : zS X G nL ws lv k n pc (.int a :: st) := by
  obtain ⟨p, l', e, R, s, m, args, below, meth, c, A, Q⟩ := X
  obtain ⟨rfl, rfl, hx, hb, hml, hown, hts, hnm, hA, hK⟩ := hC
  intro H locs ls hP hD hS hl
  exact lv_if_ne hx hb hd ht (fun h => kt h H locs ls hP hD hS hl) (fun h => kf h H locs ls hP hD hS hl)

theorem z_icmp_neT (hC : zC X l G y cc nL fr lo mc ms) {a b : Int32} {off : Int} (tgt : Nat) (hd : decode cc pc = .ok (.if_icmp .ne off, 3)) (ht : (pc : Int) + off = (tgt : Int)) (h : ¬ a = b) (kk : zS X G nL ws lv k n tgt st) : zS X G nL ws lv k n pc (.int b :: .int a :: st) := z_icmp_ne hC tgt hd ht (fun _ => kk) (fun h2 => absurd h2 h)

theorem z_icmp_neF (hC : zC X l G y cc nL fr lo mc ms) {a b : Int32} {off : Int} (tgt : Nat) (hd : decode cc pc = .ok (.if_icmp .ne off, 3)) (ht : (pc : Int) + off = (tgt : Int)) (h : a = b) (kk : zS X G nL ws lv k n (pc + 3) st) : zS X G nL ws lv k n pc (.int b :: .int a :: st) := z_icmp_ne hC tgt hd ht (fun h2 => absurd h h2) (fun _ => kk)

theorem z_if_neT (hC : zC X l G y cc nL fr lo mc ms) {a : Int32} {off : Int} (tgt : Nat) (hd : decode cc pc = .ok (.ifCond .ne off, 3)) (ht : (pc : Int) + off = (tgt : Int)) (h : ¬ a = 0) (kk : zS X G nL ws lv k n tgt st) : zS X G nL ws lv k n pc (.int a :: st) := z_if_ne hC tgt hd ht (fun _ => kk) (fun h2 => absurd h2 h)

theorem z_if_neF (hC : zC X l G y cc nL fr lo mc ms) {a : Int32} {off : Int} (tgt : Nat) (hd : decode cc pc = .ok (.ifCond .ne off, 3)) (ht : (pc : Int) + off = (tgt : Int)) (h : a = 0) (kk : zS X G nL ws lv k n (pc + 3) st) : zS X G nL ws lv k n pc (.int a :: st) := z_if_ne hC tgt hd ht (fun h2 => absurd h h2) (fun _ => kk)

theorem z_icmp_lt (hC : zC X l G y cc nL fr lo mc ms) {a b : Int32} {off : Int} (tgt : Nat) (hd : decode cc pc = .ok (.if_icmp .lt off, 3)) (ht : (pc : Int) + off = (tgt : Int)) (kt : a < b → zS X G nL ws lv k n tgt st) (kf : ¬ a < b → zS X G nL ws lv k n (pc + 3) st) : zS X G nL ws lv k n pc (.int b :: .int a :: st) := by
  obtain ⟨p, l', e, R, s, m, args, below, meth, c, A, Q⟩ := X
  obtain ⟨rfl, rfl, hx, hb, hml, hown, hts, hnm, hA, hK⟩ := hC
  intro H locs ls hP hD hS hl
  exact lv_icmp_lt hx hb hd ht (fun h => kt h H locs ls hP hD hS hl) (fun h => kf h H locs ls hP hD hS hl)

theorem z_if_lt (hC : zC X l G y cc nL fr lo mc ms) {a : Int32} {off : Int} (tgt : Nat) (hd : decode cc pc = .ok (.ifCond .lt off, 3)) (ht : (pc : Int) + off = (tgt : Int)) (kt : a < 0 → zS X G nL ws lv k n tgt st) (kf : ¬ a < 0 → zS X G nL ws lv k n (pc + 3) st) : zS X G nL ws lv k n pc (.int a :: st) := by
  obtain ⟨p, l', e, R, s, m, args, below, meth, c, A, Q⟩ := X
  obtain ⟨rfl, rfl, hx, hb, hml, hown, hts, hnm, hA, hK⟩ := hC
  intro H locs ls hP hD hS hl
  exact lv_if_lt hx hb hd ht (fun h => kt h H locs ls hP hD hS hl) (fun h => kf h H locs ls hP hD hS hl)

theorem z_icmp_ltT (hC : zC X l G y cc nL fr lo mc ms) {a b : Int32} {off : Int} (tgt : Nat) (hd : decode cc pc = .ok (.if_icmp .lt off, 3)) (ht : (pc : Int) + off = (tgt : Int)) (h : a < b) (kk : zS X G nL ws lv k n tgt st) : zS X G nL ws lv k n pc (.int b :: .int a :: st) := z_icmp_lt hC tgt hd ht (fun _ => kk) (fun h2 => absurd h h2)

theorem z_icmp_ltF (hC : zC X l G y cc nL fr lo mc ms) {a b : Int32} {off : Int} (tgt : Nat) (hd : decode cc pc = .ok (.if_icmp .lt off, 3)) (ht : (pc : Int) + off = (tgt : Int)) (h : ¬ a < b) (kk : zS X G nL ws lv k n (pc + 3) st) : zS X G nL ws lv k n pc (.int b :: .int a :: st) := z_icmp_lt hC tgt hd ht (fun h2 => absurd h2 h) (fun _ => kk)

theorem z_if_ltT (hC : zC X l G y cc nL fr lo mc ms) {a : Int32} {off : Int} (tgt : Nat) (hd : decode cc pc = .ok (.ifCond .lt off, 3)) (ht : (pc : Int) + off = (tgt : Int)) (h : a < 0) (kk : zS X G nL ws lv k n tgt st) : zS X G nL ws lv k n pc (.int a :: st) := z_if_lt hC tgt hd ht (fun _ => kk) (fun h2 => absurd h h2)

theorem z_if_ltF (hC : zC X l G y cc nL fr lo mc ms) {a : Int32} {off : Int} (tgt : Nat) (hd : decode cc pc = .ok (.ifCond .lt off, 3)) (ht : (pc : Int) + off = (tgt : Int)) (h : ¬ a < 0) (kk : zS X G nL ws lv k n (pc + 3) st) : zS X G nL ws lv k n pc (.int a :: st) := z_if_lt hC tgt hd ht (fun h2 => absurd h2 h) (fun _ => kk)

theorem z_icmp_ge (hC : zC X l G y cc nL fr lo mc ms) {a b : Int32} {off : Int} (tgt : Nat) (hd : decode cc pc = .ok (.if_icmp .ge off, 3)) (ht : (pc : Int) + off = (tgt : Int)) (kt : b ≤ a → zS X G nL ws lv k n tgt st) (kf : ¬ b ≤ a → zS X G nL ws lv k n (pc + 3) st) : zS X G nL ws lv k n pc (.int b :: .int a :: st) := by
  obtain ⟨p, l', e, R, s, m, args, below, meth, c, A, Q⟩ := X
  obtain ⟨rfl, rfl, hx, hb, hml, hown, hts, hnm, hA, hK⟩ := hC
  intro H locs ls hP hD hS hl
  exact lv_icmp_ge hx hb hd ht (fun h => kt h H locs ls hP hD hS hl) (fun h => kf h H locs ls hP hD hS hl)

theorem z_if_ge (hC : zC X l G y cc nL fr lo mc ms) {a : Int32} {off : Int} (tgt : Nat) (hd : decode cc pc = .ok (.ifCond .ge off, 3)) (ht : (pc : Int) + off = (tgt : Int)) (kt : 0 ≤ a → zS X G nL ws lv k n tgt st) (kf : ¬ 0 ≤ a → zS X G nL ws lv k n (pc + 3) st) : zS X G nL ws lv k n pc (.int a :: st) := by
  obtain ⟨p, l', e, R, s, m, args, below, meth, c, A, Q⟩ := X
  obtain ⟨rfl, rfl, hx, hb, hml, hown, hts, hnm, hA, hK⟩ := hC
  intro H locs ls hP hD hS hl
  exact lv_if_ge hx hb hd ht (fun h => kt h H locs ls hP hD hS hl) (fun h => kf h H locs ls hP hD hS hl)

theorem z_icmp_geT (hC : zC X l G y cc nL fr lo mc ms) {a b : Int32} {off : Int} (tgt : Nat) (hd : decode cc pc = .ok (.if_icmp .ge off, 3)) (ht : (pc : Int) + off = (tgt : Int)) (h : b ≤ a) (kk : zS X G nL ws lv k n tgt st) : zS X G nL ws lv k n pc (.int b :: .int a :: st) := z_icmp_ge hC tgt hd ht (fun _ => kk) (fun h2 => absurd h h2)

theorem z_icmp_geF (hC : zC X l G y cc nL fr lo mc ms) {a b : Int32} {off : Int} (tgt : Nat) (hd : decode cc pc = .ok (.if_icmp .ge off, 3)) (ht : (pc : Int) + off = (tgt : Int)) (h : ¬ b ≤ a) (kk : zS X G nL ws lv k n (pc + 3) st) : zS X G nL ws lv k n pc (.int b :: .int a :: st) := z_icmp_ge hC tgt hd ht (fun h2 => absurd h2 h) (fun _ => kk)

theorem z_if_geT (hC : zC X l G y cc nL fr lo mc ms) {a : Int32} {off : Int} (tgt : Nat) (hd : decode cc pc = .ok (.ifCond .ge off, 3)) (ht : (pc : Int) + off = (tgt : Int)) (h : 0 ≤ a) (kk : zS X G nL ws lv k n tgt st) : zS X G nL ws lv k n pc (.int a :: st) := z_if_ge hC tgt hd ht (fun _ => kk) (fun h2 => absurd h h2)

theorem z_if_geF (hC : zC X l G y cc nL fr lo mc ms) {a : Int32} {off : Int} (tgt : Nat) (hd : decode cc pc = .ok (.ifCond .ge off, 3)) (ht : (pc : Int) + off = (tgt : Int)) (h : ¬ 0 ≤ a) (kk : zS X G nL ws lv k n (pc + 3) st) : zS X G nL ws lv k n pc (.int a :: st) := z_if_ge hC tgt hd ht (fun h2 => absurd h2 h) (fun _ => kk)

theorem z_icmp_gt (hC : zC X l G y cc nL fr lo mc ms) {a b : Int32} {off : Int} (tgt : Nat) (hd : decode cc pc = .ok (.if_icmp .gt off, 3)) (ht : (pc : Int) + off = (tgt : Int)) (kt : b < a → zS X G nL ws lv k n tgt st) (kf : ¬ b < a → zS X G nL ws lv k n (pc + 3) st) : zS X G nL ws lv k n pc (.int b :: .int a :: st) := by
  obtain ⟨p, l', e, R, s, m, args, below, meth, c, A, Q⟩ := X
  obtain ⟨rfl, rfl, hx, hb, hml, hown, hts, hnm, hA, hK⟩ := hC
  intro H locs ls hP hD hS hl
  exact lv_icmp_gt hx hb hd ht (fun h => kt h H locs ls hP hD hS hl) (fun h => kf h H locs ls hP hD hS hl)

theorem z_if_gt (hC : zC X l G y cc nL fr lo mc ms) {a : Int32} {off : Int} (tgt : Nat) (hd : decode cc pc = .ok (.ifCond .gt off, 3)) (ht : (pc : Int) + off = (tgt : Int)) (kt : 0 < a → zS X G nL ws lv k n tgt st) (kf : ¬ 0 < a → zS X G nL ws lv k n (pc + 3) st) : zS X G nL ws lv k n pc (.int a :: st) := by
  obtain ⟨p, l', e, R, s, m, args, below, meth, c, A, Q⟩ := X
  obtain ⟨rfl, rfl, hx, hb, hml, hown, hts, hnm, hA, hK⟩ := hC
  intro H locs ls hP hD hS hl
  exact lv_if_gt hx hb hd ht (fun h => kt h H locs ls hP hD hS hl) (fun h => kf h H locs ls hP hD hS hl)

theorem z_icmp_gtT (hC : zC X l G y cc nL fr lo mc ms) {a b : Int32} {off : Int} (tgt : Nat) (hd : decode cc pc = .ok (.if_icmp .gt off, 3)) (ht : (pc : Int) + off = (tgt : Int)) (h : b < a) (kk : zS X G nL ws lv k n tgt st) : zS X G nL ws lv k n pc (.int b :: .int a :: st) := z_icmp_gt hC tgt hd ht (fun _ => kk) (fun h2 => absurd h h2)

theorem z_icmp_gtF (hC : zC X l G y cc nL fr lo mc ms) {a b : Int32} {off : Int} (tgt : Nat) (hd : decode cc pc = .ok (.if_icmp .gt off, 3)) (ht : (pc : Int) + off = (tgt : Int)) (h : ¬ b < a) (kk : zS X G nL ws lv k n (pc + 3) st) : zS X G nL ws lv k n pc (.int b :: .int a :: st) := z_icmp_gt hC tgt hd ht (fun h2 => absurd h2 h) (fun _ => kk)

theorem z_if_gtT (hC : zC X l G y cc nL fr lo mc ms) {a : Int32} {off : Int} (tgt : Nat) (hd : decode cc pc = .ok (.ifCond .gt off, 3)) (ht : (pc : Int) + off = (tgt : Int)) (h : 0 < a) (kk : zS X G nL ws lv k n tgt st) : zS X G nL ws lv k n pc (.int a :: st) := z_if_gt hC tgt hd ht (fun _ => kk) (fun h2 => absurd h h2)

theorem z_if_gtF (hC : zC X l G y cc nL fr lo mc ms) {a : Int32} {off : Int} (tgt : Nat) (hd : decode cc pc = .ok (.ifCond .gt off, 3)) (ht : (pc : Int) + off = (tgt : Int)) (h : ¬ 0 < a) (kk : zS X G nL ws lv k n (pc + 3) st) : zS X G nL ws lv k n pc (.int a :: st) := z_if_gt hC tgt hd ht (fun h2 => absurd h2 h) (fun _ => kk)

theorem z_icmp_le (hC : zC X l G y cc nL fr lo mc ms) {a b : Int32} {off : Int} (tgt : Nat) (hd : decode cc pc = .ok (.if_icmp .le off, 3)) (ht : (pc : Int) + off = (tgt : Int)) (kt : a ≤ b → zS X G nL ws lv k n tgt st) (kf : ¬ a ≤ b → zS X G nL ws lv k n (pc + 3) st) : zS X G nL ws lv k n pc (.int b :: .int a :: st) := by
  obtain ⟨p, l', e, R, s, m, args, below, meth, c, A, Q⟩ := X
  obtain ⟨rfl, rfl, hx, hb, hml, hown, hts, hnm, hA, hK⟩ := hC
  intro H locs ls hP hD hS hl
  exact lv_icmp_le hx hb hd ht (fun h => kt h H locs ls hP hD hS hl) (fun h => kf h H locs ls hP hD hS hl)

theorem z_if_le (hC : zC X l G y cc nL fr lo mc ms) {a : Int32} {off : Int} (tgt : Nat) (hd : decode cc pc = .ok (.ifCond .le off, 3)) (ht : (pc : Int) + off = (tgt : Int)) (kt : a ≤ 0 → zS X G nL ws lv k n tgt st) (kf : ¬ a ≤ 0 → zS X G nL ws lv k n (pc + 3) st) : zS X G nL ws lv k n pc (.int a :: st) := by
  obtain ⟨p, l', e, R, s, m, args, below, meth, c, A, Q⟩ := X
  obtain ⟨rfl, rfl, hx, hb, hml, hown, hts, hnm, hA, hK⟩ := hC
  intro H locs ls hP hD hS hl
  exact lv_if_le hx hb hd ht (fun h => kt h H locs ls hP hD hS hl) (fun h => kf h H locs ls hP hD hS hl)

theorem z_icmp_leT (hC : zC X l G y cc nL fr lo mc ms) {a b : Int32} {off : Int} (tgt : Nat) (hd : decode cc pc = .ok (.if_icmp .le off, 3)) (ht : (pc : Int) + off = (tgt : Int)) (h : a ≤ b) (kk : zS X G nL ws lv k n tgt st) : zS X G nL ws lv k n pc (.int b :: .int a :: st) := z_icmp_le hC tgt hd ht (fun _ => kk) (fun h2 => absurd h h2)

theorem z_icmp_leF (hC : zC X l G y cc nL fr lo mc ms) {a b : Int32} {off : Int} (tgt : Nat) (hd : decode cc pc = .ok (.if_icmp .le off, 3)) (ht : (pc : Int) + off = (tgt : Int)) (h : ¬ a ≤ b) (kk : zS X G nL ws lv k n (pc + 3) st) : zS X G nL ws lv k n pc (.int b :: .int a :: st) := z_icmp_le hC tgt hd ht (fun h2 => absurd h2 h) (fun _ => kk)

theorem z_if_leT (hC : zC X l G y cc nL fr lo mc ms) {a : Int32} {off : Int} (tgt : Nat) (hd : decode cc pc = .ok (.ifCond .le off, 3)) (ht : (pc : Int) + off = (tgt : Int)) (h : a ≤ 0) (kk : zS X G nL ws lv k n tgt st) : zS X G nL ws lv k n pc (.int a :: st) := z_if_le hC tgt hd ht (fun _ => kk) (fun h2 => absurd h h2)

theorem z_if_leF (hC : zC X l G y cc nL fr lo mc ms) {a : Int32} {off : Int} (tgt : Nat) (hd : decode cc pc = .ok (.ifCond .le off, 3)) (ht : (pc : Int) + off = (tgt : Int)) (h : ¬ a ≤ 0) (kk : zS X G nL ws lv k n (pc + 3) st) : zS X G nL ws lv k n pc (.int a :: st) := z_if_le hC tgt hd ht (fun h2 => absurd h2 h) (fun _ => kk)

theorem z_get (hC : zC X l G y cc nL fr lo mc ms) {ci N : Nat} {C : String} {T : u_T} {ty : Nat → FieldType} (hF : zF ci C T N ty) (q f : Nat) {idx a : Nat} {fs : List Value} {v : Value} (hd : decode cc pc = .ok (.getfield idx, 3)) (hw : Cond.fieldLink y.cls idx C (T f).2.1 (T f).2.2.1 ∈ zT) (he : ws[q]? = some (a, .inr (ci, fs))) (hv : fs[f]? = some v) (hf : f < N := by decide) (hdc : (T f).1 = C := by rfl) (kk : zS X G nL ws lv k n (pc + 3) (v :: st)) : zS X G nL ws lv k n pc (.ref a :: st) := by
  obtain ⟨p, l', e, R, s, m, args, below, meth, c, A, Q⟩ := X
  obtain ⟨rfl, rfl, hx, hb, hml, hown, hts, hnm, hA, hK⟩ := hC
  intro H locs ls hP hD hS hl
  exact va_get (D := G.1) hx hb hts hF.2.1 hown hK.1 hP q he hF.1 f hf (hts _ hw) (by rw [hdc]; exact fun _ h => h) hv hd (kk H locs ls hP hD hS hl)

theorem z_put (hC : zC X l G y cc nL fr lo mc ms) {ci N : Nat} {C : String} {T : u_T} {ty : Nat → FieldType} (hF : zF ci C T N ty) (q f : Nat) {idx a : Nat} {fs : List Value} {v : Value} (ws' : va_W) (hd : decode cc pc = .ok (.putfield idx, 3)) (hw : Cond.fieldLink y.cls idx C (T f).2.1 (T f).2.2.1 ∈ zT) (he : ws[q]? = some (a, .inr (ci, fs))) (hfin : (T f).2.2.2 = false) (hn : narrow (ty f) v = v) (hfit : fits (ty f) v = true) (hws : ws.set q (a, .inr (ci, fs.set f v)) = ws') (hlen : fs.length = N := by rfl) (hf : f < N := by decide) (hdc : (T f).1 = C := by rfl) (kk : zS X G nL ws' lv k n (pc + 3) st) : zS X G nL ws lv k n pc (v :: .ref a :: st) := by
  obtain ⟨p, l', e, R, s, m, args, below, meth, c, A, Q⟩ := X
  obtain ⟨rfl, rfl, hx, hb, hml, hown, hts, hnm, hA, hK⟩ := hC
  intro H locs ls hP hD hS hl
  subst hws
  exact va_put (D := G.1) hx hb hts hF.2.1 ty hF.2.2.1 hF.2.2.2 hown hK.1 hP hD hS q he hF.1 f hf (hts _ hw) (by rw [hdc]; exact fun _ h => h) hfin (hF.2.2.1 f hf) hn hfit (by rw [hlen]; exact hf) hd (fun H locs hP hD hS => kk H locs ls hP hD hS hl)

theorem z_getN (hC : zC X l G y cc nL fr lo mc ms) {ci N : Nat} {C : String} {T : u_T} {ty : Nat → FieldType} (hF : zF ci C T N ty) (q f : Nat) {idx a : Nat} {host : String} {fs : List Value} {v : Value} (hd : decode cc pc = .ok (.getfield idx, 3)) (hw : Cond.fieldLinkNest y.cls idx C (T f).2.1 (T f).2.2.1 host ∈ zNest) (he : ws[q]? = some (a, .inr (ci, fs))) (hv : fs[f]? = some v) (hf : f < N := by decide) (hdc : (T f).1 = C := by rfl) (kk : zS X G nL ws lv k n (pc + 3) (v :: st)) : zS X G nL ws lv k n pc (.ref a :: st) := by
  obtain ⟨p, l', e, R, s, m, args, below, meth, c, A, Q⟩ := X
  obtain ⟨rfl, rfl, hx, hb, hml, hown, hts, hnm, hA, hK⟩ := hC
  intro H locs ls hP hD hS hl
  exact va_getN (D := G.1) hx hb hts hF.2.1 hown hK.1 hP q he hF.1 f hf (va_Nw.use rfl (hK.2.2.2.2.2.2 _ hw)) (by rw [hdc]; exact fun _ h => h) hv hd (kk H locs ls hP hD hS hl)

theorem z_putN (hC : zC X l G y cc nL fr lo mc ms) {ci N : Nat} {C : String} {T : u_T} {ty : Nat → FieldType} (hF : zF ci C T N ty) (q f : Nat) {idx a : Nat} {host : String} {fs : List Value} {v : Value} (ws' : va_W) (hd : decode cc pc = .ok (.putfield idx, 3)) (hw : Cond.fieldLinkNest y.cls idx C (T f).2.1 (T f).2.2.1 host ∈ zNest) (he : ws[q]? = some (a, .inr (ci, fs))) (hfin : (T f).2.2.2 = false) (hn : narrow (ty f) v = v) (hfit : fits (ty f) v = true) (hws : ws.set q (a, .inr (ci, fs.set f v)) = ws') (hlen : fs.length = N := by rfl) (hf : f < N := by decide) (hdc : (T f).1 = C := by rfl) (kk : zS X G nL ws' lv k n (pc + 3) st) : zS X G nL ws lv k n pc (v :: .ref a :: st) := by
  obtain ⟨p, l', e, R, s, m, args, below, meth, c, A, Q⟩ := X
  obtain ⟨rfl, rfl, hx, hb, hml, hown, hts, hnm, hA, hK⟩ := hC
  intro H locs ls hP hD hS hl
  subst hws
  exact va_putN (D := G.1) hx hb hts hF.2.1 ty hF.2.2.1 hF.2.2.2 hown hK.1 hP hD hS q he hF.1 f hf (va_Nw.use rfl (hK.2.2.2.2.2.2 _ hw)) (by rw [hdc]; exact fun _ h => h) hfin (hF.2.2.1 f hf) hn hfit (by rw [hlen]; exact hf) hd (fun H locs hP hD hS => kk H locs ls hP hD hS hl)

theorem z_putF (hC : zC X l G y cc nL fr lo mc ms) {ci N : Nat} {C : String} {T : u_T} {ty : Nat → FieldType} (hF : zF ci C T N ty) (q f : Nat) {idx a : Nat} {fs : List Value} {v : Value} (ws' : va_W) (hd : decode cc pc = .ok (.putfield idx, 3)) (hw : Cond.fieldLink y.cls idx C (T f).2.1 (T f).2.2.1 ∈ zT) (he : ws[q]? = some (a, .inr (ci, fs))) (hfin : (T f).2.2.2 = true) (hn : narrow (ty f) v = v) (hfit : fits (ty f) v = true) (hws : ws.set q (a, .inr (ci, fs.set f v)) = ws') (hlen : fs.length = N := by rfl) (hf : f < N := by decide) (hdc : (T f).1 = C := by rfl) (hyc : C = y.cls := by rfl) (hyn : y.name = "<init>" := by rfl) (kk : zS X G nL ws' lv k n (pc + 3) st) : zS X G nL ws lv k n pc (v :: .ref a :: st) := by
  obtain ⟨p, l', e, R, s, m, args, below, meth, c, A, Q⟩ := X
  obtain ⟨rfl, rfl, hx, hb, hml, hown, hts, hnm, hA, hK⟩ := hC
  intro H locs ls hP hD hS hl
  subst hws
  exact va_putF (D := G.1) hx hb hts hF.2.1 ty hF.2.2.1 hF.2.2.2 hown hK.1 hP hD hS q he hF.1 f hf (hts _ hw) (by rw [hdc]; exact fun _ h => h) hfin (hnm.trans hyn) (hdc.trans hyc) (hF.2.2.1 f hf) hn hfit (by rw [hlen]; exact hf) hd (fun H locs hP hD hS => kk H locs ls hP hD hS hl)

theorem z_iald (hC : zC X l G y cc nL fr lo mc ms) (q : Nat) {a N : Nat} {f : Nat → Int32} {i v : Int32} (hd : decode cc pc = .ok (.iaload, 1)) (he : ws[q]? = some (a, .inl (G.2.1 0, N, .inl f))) (hi : vp_in i N) (hv : f i.toNatClampNeg = v) (kk : zS X G nL ws lv k n (pc + 1) (.int v :: st)) : zS X G nL ws lv k n pc (.int i :: .ref a :: st) := by
  obtain ⟨p, l', e, R, s, m, args, below, meth, c, A, Q⟩ := X
  obtain ⟨rfl, rfl, hx, hb, hml, hown, hts, hnm, hA, hK⟩ := hC
  intro H locs ls hP hD hS hl
  subst hv
  exact va_iald (D := G.1) hx hb hK.1 hP q 0 he rfl hi hd (kk H locs ls hP hD hS hl)

theorem z_bald (hC : zC X l G y cc nL fr lo mc ms) (q : Nat) {a N : Nat} {f : Nat → Int32} {i v : Int32} (hd : decode cc pc = .ok (.baload, 1)) (he : ws[q]? = some (a, .inl (G.2.1 1, N, .inl f))) (hi : vp_in i N) (hv : f i.toNatClampNeg = v) (kk : zS X G nL ws lv k n (pc + 1) (.int v :: st)) : zS X G nL ws lv k n pc (.int i :: .ref a :: st) := by
  obtain ⟨p, l', e, R, s, m, args, below, meth, c, A, Q⟩ := X
  obtain ⟨rfl, rfl, hx, hb, hml, hown, hts, hnm, hA, hK⟩ := hC
  intro H locs ls hP hD hS hl
  subst hv
  exact va_bald (D := G.1) hx hb hK.1 hP q 1 he rfl hi hd (kk H locs ls hP hD hS hl)

theorem z_zald (hC : zC X l G y cc nL fr lo mc ms) (q : Nat) {a N : Nat} {f : Nat → Int32} {i v : Int32} (hd : decode cc pc = .ok (.baload, 1)) (he : ws[q]? = some (a, .inl (G.2.1 3, N, .inl f))) (hi : vp_in i N) (hv : f i.toNatClampNeg = v) (kk : zS X G nL ws lv k n (pc + 1) (.int v :: st)) : zS X G nL ws lv k n pc (.int i :: .ref a :: st) := by
  obtain ⟨p, l', e, R, s, m, args, below, meth, c, A, Q⟩ := X
  obtain ⟨rfl, rfl, hx, hb, hml, hown, hts, hnm, hA, hK⟩ := hC
  intro H locs ls hP hD hS hl
  subst hv
  exact va_zald (D := G.1) hx hb hK.1 hP q 3 he rfl hi hd (kk H locs ls hP hD hS hl)

theorem z_iast (hC : zC X l G y cc nL fr lo mc ms) (q : Nat) {a N : Nat} {f f' : Nat → Int32} {i x : Int32} (ws' : va_W) (hd : decode cc pc = .ok (.iastore, 1)) (he : ws[q]? = some (a, .inl (G.2.1 0, N, .inl f))) (hi : vp_in i N) (hf : upd f i.toNatClampNeg x = f') (hws : ws.set q (a, .inl (G.2.1 0, N, .inl f')) = ws') (kk : zS X G nL ws' lv k n (pc + 1) st) : zS X G nL ws lv k n pc (.int x :: .int i :: .ref a :: st) := by
  obtain ⟨p, l', e, R, s, m, args, below, meth, c, A, Q⟩ := X
  obtain ⟨rfl, rfl, hx, hb, hml, hown, hts, hnm, hA, hK⟩ := hC
  intro H locs ls hP hD hS hl
  subst hws hf
  exact va_iast (D := G.1) hx hb hK.1 hP hD hS q 0 he rfl hi hd (fun H locs hP hD hS => kk H locs ls hP hD hS hl)

theorem z_bast (hC : zC X l G y cc nL fr lo mc ms) (q : Nat) {a N : Nat} {f f' : Nat → Int32} {i x : Int32} (ws' : va_W) (hd : decode cc pc = .ok (.bastore, 1)) (he : ws[q]? = some (a, .inl (G.2.1 1, N, .inl f))) (hi : vp_in i N) (hf : upd f i.toNatClampNeg (vp_nar .byte x) = f') (hws : ws.set q (a, .inl (G.2.1 1, N, .inl f')) = ws') (kk : zS X G nL ws' lv k n (pc + 1) st) : zS X G nL ws lv k n pc (.int x :: .int i :: .ref a :: st) := by
  obtain ⟨p, l', e, R, s, m, args, below, meth, c, A, Q⟩ := X
  obtain ⟨rfl, rfl, hx, hb, hml, hown, hts, hnm, hA, hK⟩ := hC
  intro H locs ls hP hD hS hl
  subst hws hf
  exact va_bast (D := G.1) hx hb hK.1 hP hD hS q 1 he rfl hi hd (fun H locs hP hD hS => kk H locs ls hP hD hS hl)

theorem z_zast (hC : zC X l G y cc nL fr lo mc ms) (q : Nat) {a N : Nat} {f f' : Nat → Int32} {i x : Int32} (ws' : va_W) (hd : decode cc pc = .ok (.bastore, 1)) (he : ws[q]? = some (a, .inl (G.2.1 3, N, .inl f))) (hi : vp_in i N) (hf : upd f i.toNatClampNeg (vp_nar .boolean x) = f') (hws : ws.set q (a, .inl (G.2.1 3, N, .inl f')) = ws') (kk : zS X G nL ws' lv k n (pc + 1) st) : zS X G nL ws lv k n pc (.int x :: .int i :: .ref a :: st) := by
  obtain ⟨p, l', e, R, s, m, args, below, meth, c, A, Q⟩ := X
  obtain ⟨rfl, rfl, hx, hb, hml, hown, hts, hnm, hA, hK⟩ := hC
  intro H locs ls hP hD hS hl
  subst hws hf
  exact va_zast (D := G.1) hx hb hK.1 hP hD hS q 3 he rfl hi hd (fun H locs hP hD hS => kk H locs ls hP hD hS hl)

theorem z_last (hC : zC X l G y cc nL fr lo mc ms) (q : Nat) {a N : Nat} {f f' : Nat → Int64} {i : Int32} {x : Int64} (ws' : va_W) (hd : decode cc pc = .ok (.lastore, 1)) (he : ws[q]? = some (a, .inl (G.2.1 2, N, .inr (.inl f)))) (hi : vp_in i N) (hf : vp_updL f i.toNatClampNeg x = f') (hws : ws.set q (a, .inl (G.2.1 2, N, .inr (.inl f'))) = ws') (kk : zS X G nL ws' lv k n (pc + 1) st) : zS X G nL ws lv k n pc (.long x :: .int i :: .ref a :: st) := by
  obtain ⟨p, l', e, R, s, m, args, below, meth, c, A, Q⟩ := X
  obtain ⟨rfl, rfl, hx, hb, hml, hown, hts, hnm, hA, hK⟩ := hC
  intro H locs ls hP hD hS hl
  subst hws hf
  exact va_last (D := G.1) hx hb hK.1 hP hD hS q 2 he rfl hi hd (fun H locs hP hD hS => kk H locs ls hP hD hS hl)

theorem z_alen0 (hC : zC X l G y cc nL fr lo mc ms) (q : Nat) {a : Nat} {x : vp_A} {v : Int32} (hd : decode cc pc = .ok (.arraylength, 1)) (he : ws[q]? = some (a, .inl (G.2.1 0, x))) (hv : Int32.ofNat x.1 = v) (kk : zS X G nL ws lv k n (pc + 1) (.int v :: st)) : zS X G nL ws lv k n pc (.ref a :: st) := by
  obtain ⟨p, l', e, R, s, m, args, below, meth, c, A, Q⟩ := X
  obtain ⟨rfl, rfl, hx, hb, hml, hown, hts, hnm, hA, hK⟩ := hC
  intro H locs ls hP hD hS hl
  exact va_alen (D := G.1) hx hb hK.1 hP q 0 he rfl hv hd (kk H locs ls hP hD hS hl)

theorem z_alen1 (hC : zC X l G y cc nL fr lo mc ms) (q : Nat) {a : Nat} {x : vp_A} {v : Int32} (hd : decode cc pc = .ok (.arraylength, 1)) (he : ws[q]? = some (a, .inl (G.2.1 1, x))) (hv : Int32.ofNat x.1 = v) (kk : zS X G nL ws lv k n (pc + 1) (.int v :: st)) : zS X G nL ws lv k n pc (.ref a :: st) := by
  obtain ⟨p, l', e, R, s, m, args, below, meth, c, A, Q⟩ := X
  obtain ⟨rfl, rfl, hx, hb, hml, hown, hts, hnm, hA, hK⟩ := hC
  intro H locs ls hP hD hS hl
  exact va_alen (D := G.1) hx hb hK.1 hP q 1 he rfl hv hd (kk H locs ls hP hD hS hl)

theorem z_alen2 (hC : zC X l G y cc nL fr lo mc ms) (q : Nat) {a : Nat} {x : vp_A} {v : Int32} (hd : decode cc pc = .ok (.arraylength, 1)) (he : ws[q]? = some (a, .inl (G.2.1 2, x))) (hv : Int32.ofNat x.1 = v) (kk : zS X G nL ws lv k n (pc + 1) (.int v :: st)) : zS X G nL ws lv k n pc (.ref a :: st) := by
  obtain ⟨p, l', e, R, s, m, args, below, meth, c, A, Q⟩ := X
  obtain ⟨rfl, rfl, hx, hb, hml, hown, hts, hnm, hA, hK⟩ := hC
  intro H locs ls hP hD hS hl
  exact va_alen (D := G.1) hx hb hK.1 hP q 2 he rfl hv hd (kk H locs ls hP hD hS hl)

theorem z_alen3 (hC : zC X l G y cc nL fr lo mc ms) (q : Nat) {a : Nat} {x : vp_A} {v : Int32} (hd : decode cc pc = .ok (.arraylength, 1)) (he : ws[q]? = some (a, .inl (G.2.1 3, x))) (hv : Int32.ofNat x.1 = v) (kk : zS X G nL ws lv k n (pc + 1) (.int v :: st)) : zS X G nL ws lv k n pc (.ref a :: st) := by
  obtain ⟨p, l', e, R, s, m, args, below, meth, c, A, Q⟩ := X
  obtain ⟨rfl, rfl, hx, hb, hml, hown, hts, hnm, hA, hK⟩ := hC
  intro H locs ls hP hD hS hl
  exact va_alen (D := G.1) hx hb hK.1 hP q 3 he rfl hv hd (kk H locs ls hP hD hS hl)

theorem z_alen4 (hC : zC X l G y cc nL fr lo mc ms) (q : Nat) {a : Nat} {x : vp_A} {v : Int32} (hd : decode cc pc = .ok (.arraylength, 1)) (he : ws[q]? = some (a, .inl (G.2.1 4, x))) (hv : Int32.ofNat x.1 = v) (kk : zS X G nL ws lv k n (pc + 1) (.int v :: st)) : zS X G nL ws lv k n pc (.ref a :: st) := by
  obtain ⟨p, l', e, R, s, m, args, below, meth, c, A, Q⟩ := X
  obtain ⟨rfl, rfl, hx, hb, hml, hown, hts, hnm, hA, hK⟩ := hC
  intro H locs ls hP hD hS hl
  exact va_alen (D := G.1) hx hb hK.1 hP q 4 he rfl hv hd (kk H locs ls hP hD hS hl)

theorem z_alen5 (hC : zC X l G y cc nL fr lo mc ms) (q : Nat) {a : Nat} {x : vp_A} {v : Int32} (hd : decode cc pc = .ok (.arraylength, 1)) (he : ws[q]? = some (a, .inl (G.2.1 5, x))) (hv : Int32.ofNat x.1 = v) (kk : zS X G nL ws lv k n (pc + 1) (.int v :: st)) : zS X G nL ws lv k n pc (.ref a :: st) := by
  obtain ⟨p, l', e, R, s, m, args, below, meth, c, A, Q⟩ := X
  obtain ⟨rfl, rfl, hx, hb, hml, hown, hts, hnm, hA, hK⟩ := hC
  intro H locs ls hP hD hS hl
  exact va_alen (D := G.1) hx hb hK.1 hP q 5 he rfl hv hd (kk H locs ls hP hD hS hl)

theorem z_newa0 (hC : zC X l G y cc nL fr lo mc ms) {i : Int32} {N : Nat} (hd : decode cc pc = .ok (.newarray .int, 2)) (hi : ¬ i < 0) (hN : i.toNatClampNeg = N) (hb1 : N * componentBytes .int ≤ 536870912) (hk : k + 1 ≤ mc) (hn : n + N ≤ ms) (kk : ∀ a : Nat, zS X G nL (ws ++ [(a, .inl (G.2.1 0, N, .inl (fun _ => 0)))]) lv (k + 1) (n + N) (pc + 2) (.ref a :: st)) : zS X G nL ws lv k n pc (.int i :: st) := by
  obtain ⟨p, l', e, R, s, m, args, below, meth, c, A, Q⟩ := X
  obtain ⟨rfl, rfl, hx, hb, hml, hown, hts, hnm, hA, hK⟩ := hC
  intro H locs ls hP hD hS hl
  refine va_newa (atype := .int) (ty := .int) (N' := N) (a0 := (N, .inl (fun _ => 0))) hx hb (hts _ (zwA0)) rfl hK.1 hP hD hS hA (fun cA => by first | exact vp_cell_i _ _ _ | exact vp_cell_l _ _ _ | rfl) hi hN hb1 hk hn hd (fun q cA H1 hK1 hP1 hD1 hS1 => ?_)
  have e1 := (hK1.2 6 (cA, .int) rfl).2
  have e2 := (hK.1.2 0 (G.2.1 0, .int) rfl).2
  have e3 : cA = G.2.1 0 := Option.some.inj (e1.symm.trans e2)
  subst e3
  exact kk q H1 locs ls hP1 hD1 hS1 hl

theorem z_newa1 (hC : zC X l G y cc nL fr lo mc ms) {i : Int32} {N : Nat} (hd : decode cc pc = .ok (.newarray .byte, 2)) (hi : ¬ i < 0) (hN : i.toNatClampNeg = N) (hb1 : N * componentBytes .byte ≤ 536870912) (hk : k + 1 ≤ mc) (hn : n + N ≤ ms) (kk : ∀ a : Nat, zS X G nL (ws ++ [(a, .inl (G.2.1 1, N, .inl (fun _ => 0)))]) lv (k + 1) (n + N) (pc + 2) (.ref a :: st)) : zS X G nL ws lv k n pc (.int i :: st) := by
  obtain ⟨p, l', e, R, s, m, args, below, meth, c, A, Q⟩ := X
  obtain ⟨rfl, rfl, hx, hb, hml, hown, hts, hnm, hA, hK⟩ := hC
  intro H locs ls hP hD hS hl
  refine va_newa (atype := .byte) (ty := .byte) (N' := N) (a0 := (N, .inl (fun _ => 0))) hx hb (hts _ (zwA1)) rfl hK.1 hP hD hS hA (fun cA => by first | exact vp_cell_i _ _ _ | exact vp_cell_l _ _ _ | rfl) hi hN hb1 hk hn hd (fun q cA H1 hK1 hP1 hD1 hS1 => ?_)
  have e1 := (hK1.2 6 (cA, .byte) rfl).2
  have e2 := (hK.1.2 1 (G.2.1 1, .byte) rfl).2
  have e3 : cA = G.2.1 1 := Option.some.inj (e1.symm.trans e2)
  subst e3
  exact kk q H1 locs ls hP1 hD1 hS1 hl

theorem z_newa2 (hC : zC X l G y cc nL fr lo mc ms) {i : Int32} {N : Nat} (hd : decode cc pc = .ok (.newarray .long, 2)) (hi : ¬ i < 0) (hN : i.toNatClampNeg = N) (hb1 : N * componentBytes .long ≤ 536870912) (hk : k + 1 ≤ mc) (hn : n + N ≤ ms) (kk : ∀ a : Nat, zS X G nL (ws ++ [(a, .inl (G.2.1 2, N, .inr (.inl (fun _ => 0))))]) lv (k + 1) (n + N) (pc + 2) (.ref a :: st)) : zS X G nL ws lv k n pc (.int i :: st) := by
  obtain ⟨p, l', e, R, s, m, args, below, meth, c, A, Q⟩ := X
  obtain ⟨rfl, rfl, hx, hb, hml, hown, hts, hnm, hA, hK⟩ := hC
  intro H locs ls hP hD hS hl
  refine va_newa (atype := .long) (ty := .long) (N' := N) (a0 := (N, .inr (.inl (fun _ => 0)))) hx hb (hts _ (zwA2)) rfl hK.1 hP hD hS hA (fun cA => by first | exact vp_cell_i _ _ _ | exact vp_cell_l _ _ _ | rfl) hi hN hb1 hk hn hd (fun q cA H1 hK1 hP1 hD1 hS1 => ?_)
  have e1 := (hK1.2 6 (cA, .long) rfl).2
  have e2 := (hK.1.2 2 (G.2.1 2, .long) rfl).2
  have e3 : cA = G.2.1 2 := Option.some.inj (e1.symm.trans e2)
  subst e3
  exact kk q H1 locs ls hP1 hD1 hS1 hl

theorem z_newa3 (hC : zC X l G y cc nL fr lo mc ms) {i : Int32} {N : Nat} (hd : decode cc pc = .ok (.newarray .boolean, 2)) (hi : ¬ i < 0) (hN : i.toNatClampNeg = N) (hb1 : N * componentBytes .boolean ≤ 536870912) (hk : k + 1 ≤ mc) (hn : n + N ≤ ms) (kk : ∀ a : Nat, zS X G nL (ws ++ [(a, .inl (G.2.1 3, N, .inl (fun _ => 0)))]) lv (k + 1) (n + N) (pc + 2) (.ref a :: st)) : zS X G nL ws lv k n pc (.int i :: st) := by
  obtain ⟨p, l', e, R, s, m, args, below, meth, c, A, Q⟩ := X
  obtain ⟨rfl, rfl, hx, hb, hml, hown, hts, hnm, hA, hK⟩ := hC
  intro H locs ls hP hD hS hl
  refine va_newa (atype := .boolean) (ty := .boolean) (N' := N) (a0 := (N, .inl (fun _ => 0))) hx hb (hts _ (zwA3)) rfl hK.1 hP hD hS hA (fun cA => by first | exact vp_cell_i _ _ _ | exact vp_cell_l _ _ _ | rfl) hi hN hb1 hk hn hd (fun q cA H1 hK1 hP1 hD1 hS1 => ?_)
  have e1 := (hK1.2 6 (cA, .boolean) rfl).2
  have e2 := (hK.1.2 3 (G.2.1 3, .boolean) rfl).2
  have e3 : cA = G.2.1 3 := Option.some.inj (e1.symm.trans e2)
  subst e3
  exact kk q H1 locs ls hP1 hD1 hS1 hl

theorem z_new (hC : zC X l G y cc nL fr lo mc ms) {ci N : Nat} {C : String} {T : u_T} {ty : Nat → FieldType} (hF : zF ci C T N ty) {idx : Nat} (fs : List Value) (hd : decode cc pc = .ok (.new idx, 3)) (hw : Cond.classLink y.cls idx C ∈ zT) (hi1 : Cond.instantiable C N ∈ zT) (hi2 : Cond.initialized C ∈ zT) (hfs : ∀ j, j < N → defaultValue (ty j) = vp_V fs j) (hk : k + 1 ≤ mc) (hn : n + N ≤ ms) (kk : ∀ a : Nat, zS X G nL (ws ++ [(a, .inr (ci, fs))]) lv (k + 1) (n + N) (pc + 3) (.ref a :: st)) : zS X G nL ws lv k n pc st := by
  obtain ⟨p, l', e, R, s, m, args, below, meth, c, A, Q⟩ := X
  obtain ⟨rfl, rfl, hx, hb, hml, hown, hts, hnm, hA, hK⟩ := hC
  intro H locs ls hP hD hS hl
  exact va_new (D := G.1) hx hb hts hF.2.1 ty hF.2.2.1 hown (hts _ hw) (hts _ hi1) (hts _ hi2) hK.1 hP hD hS hA hF.1 hfs hk hn hd (fun q H1 hP1 hD1 hS1 => kk q H1 locs ls hP1 hD1 hS1 hl)

theorem z_objInit (hC : zC X l G y cc nL fr lo mc ms) {idx a : Nat} (hd : decode cc pc = .ok (.invokespecial idx, 3)) (hw : Cond.methodLink y.cls idx objectInit ∈ zT) (hst : (st.map fun v => v.category).sum + 12 ≤ lo) (hfr : 1 ≤ fr) (kk : zS X G nL ws lv k n (pc + 3) st) : zS X G nL ws lv k n pc (.ref a :: st) := by
  obtain ⟨p, l', e, R, s, m, args, below, meth, c, A, Q⟩ := X
  obtain ⟨rfl, rfl, hx, hb, hml, hown, hts, hnm, hA, hK⟩ := hC
  intro H locs ls hP hD hS hl
  refine W.objInit hx hb hown (hts _ hw) (hts _ zwO1) (hts _ zwO2) rfl (by rw [hml]; exact hl.1) rfl hd hfr ?_ ?_
  · show 2 * (F0 m pc ls (.ref a :: st)).monitorRoom + _ + 12 ≤ lo
    rw [show (F0 m pc ls (Value.ref a :: st)).monitorRoom = 0 from rfl]
    omega
  · exact W.eq (g2 := F0 m (pc + 3) ls st) rfl (kk H locs ls hP hD hS hl)

end ZI
