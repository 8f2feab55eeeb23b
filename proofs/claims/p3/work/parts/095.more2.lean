/-- the script: an int array of L ints xs at the cell b, which the law doesn't write -/
def zXs : zX → Nat → Nat → (Nat → Int32) → Prop := fun (_, _, _, _, s, _, _, _, _, _, A, _) b L xs => va_X b L xs s s.heap ∧ b < s.heap.size ∧ ¬ A b

section ZM2
variable {X : zX} {l : Launch} {G : zG} {y : MethodName} {cc : ByteArray} {nL fr lo mc ms : Nat} {ws : va_W} {lv : List (Nat × Value)} {k n pc : Nat} {st : List Value}

theorem z_sld (hC : zC X l G y cc nL fr lo mc ms) {b L : Nat} {xs : Nat → Int32} (hX : zXs X b L xs) {i v : Int32} (hd : decode cc pc = .ok (.iaload, 1)) (hi : vp_in i L) (hv : xs i.toNatClampNeg = v) (kk : zS X G nL ws lv k n (pc + 1) (.int v :: st)) : zS X G nL ws lv k n pc (.int i :: .ref b :: st) := by
  obtain ⟨p, l', e, R, s, m, args, below, meth, c, A, Q⟩ := X
  obtain ⟨rfl, rfl, hx, hb, hml, hown, hts, hnm, hA, hK⟩ := hC
  subst hv
  intro H locs ls hP hD hS hl
  exact va_sld hx hb hX.1 hX.2.1 hX.2.2 hS hi hd (kk H locs ls hP hD hS hl)
theorem z_slen (hC : zC X l G y cc nL fr lo mc ms) {b L : Nat} {xs : Nat → Int32} (hX : zXs X b L xs) {v : Int32} (hd : decode cc pc = .ok (.arraylength, 1)) (hv : Int32.ofNat L = v) (kk : zS X G nL ws lv k n (pc + 1) (.int v :: st)) : zS X G nL ws lv k n pc (.ref b :: st) := by
  obtain ⟨p, l', e, R, s, m, args, below, meth, c, A, Q⟩ := X
  obtain ⟨rfl, rfl, hx, hb, hml, hown, hts, hnm, hA, hK⟩ := hC
  subst hv
  intro H locs ls hP hD hS hl
  exact va_slen hx hb hX.1 hX.2.1 hX.2.2 hS hd (kk H locs ls hP hD hS hl)

theorem z_i2l (hC : zC X l G y cc nL fr lo mc ms) {a : Int32} {v : Int64} (hd : decode cc pc = .ok (.i2l, 1)) (hv : a.toInt64 = v) (kk : zS X G nL ws lv k n (pc + 1) (.long v :: st)) : zS X G nL ws lv k n pc (.int a :: st) := by
  obtain ⟨p, l', e, R, s, m, args, below, meth, c, A, Q⟩ := X
  obtain ⟨rfl, rfl, hx, hb, hml, hown, hts, hnm, hA, hK⟩ := hC
  intro H locs ls hP hD hS hl
  exact lv_i2l hx hb hd hv (kk H locs ls hP hD hS hl)

theorem z_ldc2 (hC : zC X l G y cc nL fr lo mc ms) {idx : Nat} {v : Int64} (hd : decode cc pc = .ok (.ldc2_w idx, 3)) (hw : Cond.constantLong y.cls idx v ∈ zT) (kk : zS X G nL ws lv k n (pc + 3) (.long v :: st)) : zS X G nL ws lv k n pc st := by
  obtain ⟨p, l', e, R, s, m, args, below, meth, c, A, Q⟩ := X
  obtain ⟨rfl, rfl, hx, hb, hml, hown, hts, hnm, hA, hK⟩ := hC
  intro H locs ls hP hD hS hl
  exact lv_ldc2 hx hb hown (hts _ hw) hd (kk H locs ls hP hD hS hl)

theorem z_land (hC : zC X l G y cc nL fr lo mc ms) {a b v : Int64} (hd : decode cc pc = .ok (.land, 1)) (hv : a &&& b = v) (kk : zS X G nL ws lv k n (pc + 1) (.long v :: st)) : zS X G nL ws lv k n pc (.long b :: .long a :: st) := by
  obtain ⟨p, l', e, R, s, m, args, below, meth, c, A, Q⟩ := X
  obtain ⟨rfl, rfl, hx, hb, hml, hown, hts, hnm, hA, hK⟩ := hC
  intro H locs ls hP hD hS hl
  subst hv
  exact lv_land hx hb hd (kk H locs ls hP hD hS hl)

theorem z_lor (hC : zC X l G y cc nL fr lo mc ms) {a b v : Int64} (hd : decode cc pc = .ok (.lor, 1)) (hv : a ||| b = v) (kk : zS X G nL ws lv k n (pc + 1) (.long v :: st)) : zS X G nL ws lv k n pc (.long b :: .long a :: st) := by
  obtain ⟨p, l', e, R, s, m, args, below, meth, c, A, Q⟩ := X
  obtain ⟨rfl, rfl, hx, hb, hml, hown, hts, hnm, hA, hK⟩ := hC
  intro H locs ls hP hD hS hl
  subst hv
  exact lv_lor hx hb hd (kk H locs ls hP hD hS hl)

theorem z_lshl (hC : zC X l G y cc nL fr lo mc ms) {a v : Int64} {b : Int32} (hd : decode cc pc = .ok (.lshl, 1)) (hv : a <<< (b.toInt64 &&& 63) = v) (kk : zS X G nL ws lv k n (pc + 1) (.long v :: st)) : zS X G nL ws lv k n pc (.int b :: .long a :: st) := by
  obtain ⟨p, l', e, R, s, m, args, below, meth, c, A, Q⟩ := X
  obtain ⟨rfl, rfl, hx, hb, hml, hown, hts, hnm, hA, hK⟩ := hC
  intro H locs ls hP hD hS hl
  exact lv_lshl hx hb hd hv (kk H locs ls hP hD hS hl)

theorem z_lald (hC : zC X l G y cc nL fr lo mc ms) (q : Nat) {a N : Nat} {f : Nat → Int64} {i : Int32} {v : Int64} (hd : decode cc pc = .ok (.laload, 1)) (he : ws[q]? = some (a, .inl (G.2.1 2, N, .inr (.inl f)))) (hi : vp_in i N) (hv : f i.toNatClampNeg = v) (kk : zS X G nL ws lv k n (pc + 1) (.long v :: st)) : zS X G nL ws lv k n pc (.int i :: .ref a :: st) := by
  obtain ⟨p, l', e, R, s, m, args, below, meth, c, A, Q⟩ := X
  obtain ⟨rfl, rfl, hx, hb, hml, hown, hts, hnm, hA, hK⟩ := hC
  intro H locs ls hP hD hS hl
  subst hv
  exact va_lald (D := G.1) hx hb hK.1 hP q 2 he rfl hi hd (kk H locs ls hP hD hS hl)

theorem z_lcmp (hC : zC X l G y cc nL fr lo mc ms) {a b : Int64} {v : Int32} (hd : decode cc pc = .ok (.lcmp, 1)) (hv : lg_cmp a b = v) (kk : zS X G nL ws lv k n (pc + 1) (.int v :: st)) : zS X G nL ws lv k n pc (.long b :: .long a :: st) := by
  obtain ⟨p, l', e, R, s, m, args, below, meth, c, A, Q⟩ := X
  obtain ⟨rfl, rfl, hx, hb, hml, hown, hts, hnm, hA, hK⟩ := hC
  intro H locs ls hP hD hS hl
  subst hv
  exact W.lcmp hx hb hd (kk H locs ls hP hD hS hl)

end ZM2

/-- the law's end with 1 -/
def zEnd (X : zX) (G : zG) : Prop := ∀ (ws : va_W) (lv : List (Nat × Value)) (k n pc : Nat), decode code pc = .ok (.ireturn, 1) → k ≤ 462046 → n ≤ 7716100 → zS X G 7 ws lv k n pc [.int 1]
