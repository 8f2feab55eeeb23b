/-! Further rows; known fields of a world; the types by classes. -/
section UI
variable {X : zX} {l : Launch} {G : zG} {y : MethodName} {cc : ByteArray} {nL fr lo mc ms : Nat} {ws : va_W} {lv : List (Nat × Value)} {k n pc : Nat} {st : List Value}

theorem z_ishl (hC : zC X l G y cc nL fr lo mc ms) {a b v : Int32} (hd : decode cc pc = .ok (.ishl, 1)) (hv : a <<< (b &&& 31) = v) (kk : zS X G nL ws lv k n (pc + 1) (.int v :: st)) : zS X G nL ws lv k n pc (.int b :: .int a :: st) := by
  obtain ⟨p, l', e, R, s, m, args, below, meth, c, A, Q⟩ := X
  obtain ⟨rfl, rfl, hx, hb, hml, hown, hts, hnm, hA, hK⟩ := hC
  intro H locs ls hP hD hS hl
  subst hv
  exact lv_ishl hx hb hd (kk H locs ls hP hD hS hl)

theorem z_irem (hC : zC X l G y cc nL fr lo mc ms) {a b v : Int32} (hd : decode cc pc = .ok (.irem, 1)) (hne : ¬ b = 0) (hv : a - a / b * b = v) (kk : zS X G nL ws lv k n (pc + 1) (.int v :: st)) : zS X G nL ws lv k n pc (.int b :: .int a :: st) := by
  obtain ⟨p, l', e, R, s, m, args, below, meth, c, A, Q⟩ := X
  obtain ⟨rfl, rfl, hx, hb, hml, hown, hts, hnm, hA, hK⟩ := hC
  intro H locs ls hP hD hS hl
  subst hv
  exact lv_irem hx hb hd hne (kk H locs ls hP hD hS hl)

theorem z_idiv (hC : zC X l G y cc nL fr lo mc ms) {a b v : Int32} (hd : decode cc pc = .ok (.idiv, 1)) (hne : ¬ b = 0) (hv : a / b = v) (kk : zS X G nL ws lv k n (pc + 1) (.int v :: st)) : zS X G nL ws lv k n pc (.int b :: .int a :: st) := by
  obtain ⟨p, l', e, R, s, m, args, below, meth, c, A, Q⟩ := X
  obtain ⟨rfl, rfl, hx, hb, hml, hown, hts, hnm, hA, hK⟩ := hC
  intro H locs ls hP hD hS hl
  subst hv
  exact lv_idiv hx hb hd hne (kk H locs ls hP hD hS hl)

theorem z_ineg (hC : zC X l G y cc nL fr lo mc ms) {a v : Int32} (hd : decode cc pc = .ok (.ineg, 1)) (hv : -a = v) (kk : zS X G nL ws lv k n (pc + 1) (.int v :: st)) : zS X G nL ws lv k n pc (.int a :: st) := by
  obtain ⟨p, l', e, R, s, m, args, below, meth, c, A, Q⟩ := X
  obtain ⟨rfl, rfl, hx, hb, hml, hown, hts, hnm, hA, hK⟩ := hC
  intro H locs ls hP hD hS hl
  subst hv
  exact lv_ineg hx hb hd (kk H locs ls hP hD hS hl)

theorem z_i2c (hC : zC X l G y cc nL fr lo mc ms) {a v : Int32} (hd : decode cc pc = .ok (.i2c, 1)) (hv : (a.toUInt32 % 65536).toInt32 = v) (kk : zS X G nL ws lv k n (pc + 1) (.int v :: st)) : zS X G nL ws lv k n pc (.int a :: st) := by
  obtain ⟨p, l', e, R, s, m, args, below, meth, c, A, Q⟩ := X
  obtain ⟨rfl, rfl, hx, hb, hml, hown, hts, hnm, hA, hK⟩ := hC
  intro H locs ls hP hD hS hl
  exact lv_i2c hx hb hd hv (kk H locs ls hP hD hS hl)

theorem z_l2i (hC : zC X l G y cc nL fr lo mc ms) {a : Int64} {v : Int32} (hd : decode cc pc = .ok (.l2i, 1)) (hv : a.toInt32 = v) (kk : zS X G nL ws lv k n (pc + 1) (.int v :: st)) : zS X G nL ws lv k n pc (.long a :: st) := by
  obtain ⟨p, l', e, R, s, m, args, below, meth, c, A, Q⟩ := X
  obtain ⟨rfl, rfl, hx, hb, hml, hown, hts, hnm, hA, hK⟩ := hC
  intro H locs ls hP hD hS hl
  exact lv_l2i hx hb hd hv (kk H locs ls hP hD hS hl)

theorem z_ldiv (hC : zC X l G y cc nL fr lo mc ms) {a b v : Int64} (hd : decode cc pc = .ok (.ldiv, 1)) (hne : ¬ b = 0) (hv : a / b = v) (kk : zS X G nL ws lv k n (pc + 1) (.long v :: st)) : zS X G nL ws lv k n pc (.long b :: .long a :: st) := by
  obtain ⟨p, l', e, R, s, m, args, below, meth, c, A, Q⟩ := X
  obtain ⟨rfl, rfl, hx, hb, hml, hown, hts, hnm, hA, hK⟩ := hC
  intro H locs ls hP hD hS hl
  subst hv
  exact lv_ldiv hx hb hd hne (kk H locs ls hP hD hS hl)

theorem z_lrem (hC : zC X l G y cc nL fr lo mc ms) {a b v : Int64} (hd : decode cc pc = .ok (.lrem, 1)) (hne : ¬ b = 0) (hv : a - a / b * b = v) (kk : zS X G nL ws lv k n (pc + 1) (.long v :: st)) : zS X G nL ws lv k n pc (.long b :: .long a :: st) := by
  obtain ⟨p, l', e, R, s, m, args, below, meth, c, A, Q⟩ := X
  obtain ⟨rfl, rfl, hx, hb, hml, hown, hts, hnm, hA, hK⟩ := hC
  intro H locs ls hP hD hS hl
  subst hv
  exact lv_lrem hx hb hd hne (kk H locs ls hP hD hS hl)

theorem z_lneg (hC : zC X l G y cc nL fr lo mc ms) {a v : Int64} (hd : decode cc pc = .ok (.lneg, 1)) (hv : -a = v) (kk : zS X G nL ws lv k n (pc + 1) (.long v :: st)) : zS X G nL ws lv k n pc (.long a :: st) := by
  obtain ⟨p, l', e, R, s, m, args, below, meth, c, A, Q⟩ := X
  obtain ⟨rfl, rfl, hx, hb, hml, hown, hts, hnm, hA, hK⟩ := hC
  intro H locs ls hP hD hS hl
  subst hv
  exact lv_lneg hx hb hd (kk H locs ls hP hD hS hl)

theorem z_ladd (hC : zC X l G y cc nL fr lo mc ms) {a b v : Int64} (hd : decode cc pc = .ok (.ladd, 1)) (hv : a + b = v) (kk : zS X G nL ws lv k n (pc + 1) (.long v :: st)) : zS X G nL ws lv k n pc (.long b :: .long a :: st) := by
  obtain ⟨p, l', e, R, s, m, args, below, meth, c, A, Q⟩ := X
  obtain ⟨rfl, rfl, hx, hb, hml, hown, hts, hnm, hA, hK⟩ := hC
  intro H locs ls hP hD hS hl
  subst hv
  exact lv_ladd hx hb hd (kk H locs ls hP hD hS hl)

theorem z_lshr (hC : zC X l G y cc nL fr lo mc ms) {a v : Int64} {b : Int32} (hd : decode cc pc = .ok (.lshr, 1)) (hv : a >>> (b.toInt64 &&& 63) = v) (kk : zS X G nL ws lv k n (pc + 1) (.long v :: st)) : zS X G nL ws lv k n pc (.int b :: .long a :: st) := by
  obtain ⟨p, l', e, R, s, m, args, below, meth, c, A, Q⟩ := X
  obtain ⟨rfl, rfl, hx, hb, hml, hown, hts, hnm, hA, hK⟩ := hC
  intro H locs ls hP hD hS hl
  exact lv_lshr hx hb hd hv (kk H locs ls hP hD hS hl)

theorem z_dup2 (hC : zC X l G y cc nL fr lo mc ms) {va vb : Value} (hd : decode cc pc = .ok (.dup2, 1)) (hva : va.category = 1) (hvb : vb.category = 1) (kk : zS X G nL ws lv k n (pc + 1) (va :: vb :: va :: vb :: st)) : zS X G nL ws lv k n pc (va :: vb :: st) := by
  obtain ⟨p, l', e, R, s, m, args, below, meth, c, A, Q⟩ := X
  obtain ⟨rfl, rfl, hx, hb, hml, hown, hts, hnm, hA, hK⟩ := hC
  intro H locs ls hP hD hS hl
  exact lv_dup2_11 hx hb hd hva hvb (kk H locs ls hP hD hS hl)

theorem z_lload (hC : zC X l G y cc nL fr lo mc ms) {i : Nat} {v : Int64} (q : Nat) (hd : decode cc pc = .ok (.lload i, 2)) (hq : lv[q]? = some (i, .long v)) (kk : zS X G nL ws lv k n (pc + 2) (.long v :: st)) : zS X G nL ws lv k n pc st := by
  obtain ⟨p, l', e, R, s, m, args, below, meth, c, A, Q⟩ := X
  obtain ⟨rfl, rfl, hx, hb, hml, hown, hts, hnm, hA, hK⟩ := hC
  intro H locs ls hP hD hS hl
  exact lv_lload hx hb hd (lv_at hl q hq) (kk H locs ls hP hD hS hl)

theorem z_lstore (hC : zC X l G y cc nL fr lo mc ms) {i : Nat} {v : Int64} {lv' : List (Nat × Value)} (hd : decode cc pc = .ok (.lstore i, 2)) (hi : i + 1 < nL) (hq : (i, Value.long v) :: lv.filter (fun q => !(q.1 == i) && (!(q.1 == i + 1) && !(q.1 + 1 == i && q.2.category == 2))) = lv') (kk : zS X G nL ws lv' k n (pc + 2) st) : zS X G nL ws lv k n pc (.long v :: st) := by
  obtain ⟨p, l', e, R, s, m, args, below, meth, c, A, Q⟩ := X
  obtain ⟨rfl, rfl, hx, hb, hml, hown, hts, hnm, hA, hK⟩ := hC
  intro H locs ls hP hD hS hl
  exact lv_lstore hx hb hd hl hi hq (fun ls hl => kk H locs ls hP hD hS hl)

theorem z_lstore_n (hC : zC X l G y cc nL fr lo mc ms) {f : Fin 4} {i : Nat} {v : Int64} {lv' : List (Nat × Value)} (hd : decode cc pc = .ok (.lstore_n f, 1)) (hf : (f : Nat) = i) (hi : i + 1 < nL) (hq : (i, Value.long v) :: lv.filter (fun q => !(q.1 == i) && (!(q.1 == i + 1) && !(q.1 + 1 == i && q.2.category == 2))) = lv') (kk : zS X G nL ws lv' k n (pc + 1) st) : zS X G nL ws lv k n pc (.long v :: st) := by
  obtain ⟨p, l', e, R, s, m, args, below, meth, c, A, Q⟩ := X
  obtain ⟨rfl, rfl, hx, hb, hml, hown, hts, hnm, hA, hK⟩ := hC
  intro H locs ls hP hD hS hl
  exact lv_lstore_n hx hb hd hf hl hi hq (fun ls hl => kk H locs ls hP hD hS hl)

theorem z_lookup (hC : zC X l G y cc nL fr lo mc ms) {x : Int32} {dflt off : Int} {ps : Array (Int × Int)} {len : Nat} (tgt : Nat) (hd : decode cc pc = .ok (.lookupswitch dflt ps, len)) (hp : (ps.toList.zip (ps.toList.drop 1)).all (fun (a, next) => a.1 < next.1) = true) (ho : Op.lookupswitch.offset ps.toList dflt x.toInt = off) (ht : (pc : Int) + off = (tgt : Int)) (kk : zS X G nL ws lv k n tgt st) : zS X G nL ws lv k n pc (.int x :: st) := by
  obtain ⟨p, l', e, R, s, m, args, below, meth, c, A, Q⟩ := X
  obtain ⟨rfl, rfl, hx, hb, hml, hown, hts, hnm, hA, hK⟩ := hC
  intro H locs ls hP hD hS hl
  exact lv_lookup hx hb hd hp ho ht (kk H locs ls hP hD hS hl)

theorem z_tableInE (hC : zC X l G y cc nL fr lo mc ms) {x v : Int32} (hxv : x = v) {dflt lo' hi off : Int} {offs : Array Int} {len : Nat} (tgt : Nat) (hd : decode cc pc = .ok (.tableswitch dflt lo' hi offs, len)) (h1 : ¬ v.toInt < lo') (h2 : ¬ hi < v.toInt) (ho : offs[(v.toInt - lo').toNat]? = some off) (ht : (pc : Int) + off = (tgt : Int)) (kk : zS X G nL ws lv k n tgt st) : zS X G nL ws lv k n pc (.int x :: st) := by
  subst hxv
  exact z_tableIn hC tgt hd h1 h2 ho ht kk
theorem t_nei {x c : Int32} (h : ¬ x = c) : ¬ x.toInt = c.toInt := fun q => h (Int32.toInt_inj.mp q)
/-- locals: fewer, in another order -/
theorem z_lvs (qs : List Nat) {lv' : List (Nat × Value)} (h : lv_pick lv qs = lv') (kk : zS X G nL ws lv' k n pc st) : zS X G nL ws lv k n pc st := by
  obtain ⟨p, l', e, R, s, m, args, below, meth, c, A, Q⟩ := X
  exact fun H locs ls hP hD hS hl => kk H locs ls hP hD hS (lv_sub hl qs h)
end UI
/-- what is known of a field -/
def tF (ci : Nat) (ws : va_W) (a f : Nat) (v : Value) : Prop := ∃ (q : Nat) (fs : List Value), ws[q]? = some (a, .inr (ci, fs)) ∧ fs[f]? = some v
/-- every field but those of W (bits 64 ci + f) is as it was -/
def tKeep (W : Nat) (ws ws' : va_W) : Prop := ∀ (ci a f : Nat) (v : Value), W.testBit (64 * ci + f) = false → tF ci ws a f v → tF ci ws' a f v
theorem tKeep.rf {W : Nat} {ws : va_W} : tKeep W ws ws := fun _ _ _ _ _ h => h
theorem tKeep.tr {W W' : Nat} {a b c : va_W} (h : tKeep W a b) (h' : tKeep W' b c) (hs : W' ||| W = W) : tKeep W a c := fun ci x f v hW hF => h' ci x f v (by
  have h3 := congrArg (fun n => n.testBit (64 * ci + f)) hs
  simp only [Nat.testBit_or, hW, Bool.or_false] at h3
  exact h3) (h ci x f v hW hF)
theorem tKeep.wide {W W' : Nat} {a b : va_W} (h : tKeep W' a b) (hs : W' ||| W = W) : tKeep W a b := tKeep.tr tKeep.rf h hs
theorem tKeep.F {W ci a f : Nat} {v : Value} {ws ws' : va_W} (h : tKeep W ws ws') (hF : tF ci ws a f v) (hb : W.testBit (64 * ci + f) = false) : tF ci ws' a f v := h ci a f v hb hF
section UT
variable {X : zX} {l : Launch} {G : zG} {y : MethodName} {cc : ByteArray} {nL fr lo mc ms : Nat} {ws : va_W} {lv : List (Nat × Value)} {k n pc : Nat} {st : List Value} {T : tT}
theorem t_keepA {q a a' : Nat} {x y : ClassId × vp_A} (he : ws[q]? = some (a, .inl x)) : tKeep 0 ws (ws.set q (a', .inl y)) := fun ci b f v _ ⟨q2, fs, h1, h2⟩ => by
  have hq : q ≠ q2 := fun h => by
    subst h
    rw [he] at h1
    cases h1
  exact ⟨q2, fs, by rw [List.getElem?_set_ne hq]; exact h1, h2⟩
theorem t_keepF {q a ci f : Nat} {fs : List Value} {v : Value} (he : ws[q]? = some (a, .inr (ci, fs))) : tKeep (2 ^ (64 * ci + f)) ws (ws.set q (a, .inr (ci, fs.set f v))) := fun ci' b f' v' hW ⟨q2, gs, h1, h2⟩ => by
  by_cases hq : q = q2
  · subst hq
    rw [he] at h1
    cases h1
    have hf : f ≠ f' := fun h => by
      subst h
      rw [Nat.testBit_two_pow_self] at hW
      cases hW
    exact ⟨q, _, List.getElem?_set_self (List.getElem?_eq_some_iff.mp he).1, by rw [List.getElem?_set_ne hf]; exact h2⟩
  · exact ⟨q2, gs, by rw [List.getElem?_set_ne hq]; exact h1, h2⟩
theorem t_setF {q a ci f : Nat} {fs : List Value} {v : Value} (he : ws[q]? = some (a, .inr (ci, fs))) (hf : f < fs.length) : tF ci (ws.set q (a, .inr (ci, fs.set f v))) a f v := ⟨q, _, List.getElem?_set_self (List.getElem?_eq_some_iff.mp he).1, List.getElem?_set_self hf⟩

theorem u_get (hC : zC X l G y cc nL fr lo mc ms) (hw : tW T ws) {ci N : Nat} {C : String} {TT : u_T} {ty : Nat → FieldType} (hF : zF ci C TT N ty) (f : Nat) {idx a : Nat} {ts : List (Value → Prop)} {t : Value → Prop} (hq : tHas T a (tO ci ts)) (ht : ts[f]? = some t) (hd : decode cc pc = .ok (.getfield idx, 3)) (hwd : Cond.fieldLink y.cls idx C (TT f).2.1 (TT f).2.2.1 ∈ zT) (hf : f < N := by decide) (hdc : (TT f).1 = C := by rfl) (kk : ∀ v, t v → tF ci ws a f v → zS X G nL ws lv k n (pc + 3) (v :: st)) : zS X G nL ws lv k n pc (.ref a :: st) := by
  obtain ⟨q, hq⟩ := hq
  obtain ⟨e, he, fs, rfl, -, hts⟩ := hw.cell hq
  obtain ⟨v, hv, htv⟩ := hts f t ht
  exact z_get hC hF q f hd hwd he hv hf hdc (kk v htv ⟨q, fs, he, hv⟩)
theorem u_getK (hC : zC X l G y cc nL fr lo mc ms) {ci N : Nat} {C : String} {TT : u_T} {ty : Nat → FieldType} (hF : zF ci C TT N ty) (f : Nat) {idx a : Nat} {v : Value} (hK : tF ci ws a f v) (hd : decode cc pc = .ok (.getfield idx, 3)) (hwd : Cond.fieldLink y.cls idx C (TT f).2.1 (TT f).2.2.1 ∈ zT) (hf : f < N := by decide) (hdc : (TT f).1 = C := by rfl) (kk : zS X G nL ws lv k n (pc + 3) (v :: st)) : zS X G nL ws lv k n pc (.ref a :: st) := by
  obtain ⟨q, fs, he, hv⟩ := hK
  exact z_get hC hF q f hd hwd he hv hf hdc kk
theorem u_put (hC : zC X l G y cc nL fr lo mc ms) (hw : tW T ws) {ci N : Nat} {C : String} {TT : u_T} {ty : Nat → FieldType} (hF : zF ci C TT N ty) (f : Nat) {idx a : Nat} {ts : List (Value → Prop)} {t : Value → Prop} {v : Value} (hq : tHas T a (tO ci ts)) (ht : ts[f]? = some t) (hv : t v) (hd : decode cc pc = .ok (.putfield idx, 3)) (hwd : Cond.fieldLink y.cls idx C (TT f).2.1 (TT f).2.2.1 ∈ zT) (hfin : (TT f).2.2.2 = false) (hn : narrow (ty f) v = v) (hfit : fits (ty f) v = true) (hlen : ts.length = N := by rfl) (hf : f < N := by decide) (hdc : (TT f).1 = C := by rfl) (kk : ∀ ws', tW T ws' → tF ci ws' a f v → tKeep (2 ^ (64 * ci + f)) ws ws' → zS X G nL ws' lv k n (pc + 3) st) : zS X G nL ws lv k n pc (v :: .ref a :: st) := by
  obtain ⟨q, hq⟩ := hq
  obtain ⟨e, he, fs, rfl, hfl, hts⟩ := hw.cell hq
  refine z_put hC hF q f _ hd hwd he hfin hn hfit rfl (hfl.trans hlen) hf hdc (kk _ (hw.set hq ⟨_, rfl, by rw [List.length_set]; exact hfl, fun j u hu => ?_⟩) (t_setF he (by omega)) (t_keepF he))
  by_cases hj : f = j
  · subst hj
    rw [ht] at hu
    cases hu
    exact ⟨v, by rw [List.getElem?_set_self (by omega)], hv⟩
  · obtain ⟨x, hx, hxu⟩ := hts j u hu
    exact ⟨x, by rw [List.getElem?_set_ne hj]; exact hx, hxu⟩

theorem u_getN (hC : zC X l G y cc nL fr lo mc ms) (hw : tW T ws) {ci N : Nat} {C : String} {TT : u_T} {ty : Nat → FieldType} (hF : zF ci C TT N ty) (f : Nat) {idx a : Nat} {host : String} {ts : List (Value → Prop)} {t : Value → Prop} (hq : tHas T a (tO ci ts)) (ht : ts[f]? = some t) (hd : decode cc pc = .ok (.getfield idx, 3)) (hwd : Cond.fieldLinkNest y.cls idx C (TT f).2.1 (TT f).2.2.1 host ∈ zNest) (hf : f < N := by decide) (hdc : (TT f).1 = C := by rfl) (kk : ∀ v, t v → tF ci ws a f v → zS X G nL ws lv k n (pc + 3) (v :: st)) : zS X G nL ws lv k n pc (.ref a :: st) := by
  obtain ⟨q, hq⟩ := hq
  obtain ⟨e, he, fs, rfl, -, hts⟩ := hw.cell hq
  obtain ⟨v, hv, htv⟩ := hts f t ht
  exact z_getN hC hF q f hd hwd he hv hf hdc (kk v htv ⟨q, fs, he, hv⟩)
theorem u_getKN (hC : zC X l G y cc nL fr lo mc ms) {ci N : Nat} {C : String} {TT : u_T} {ty : Nat → FieldType} (hF : zF ci C TT N ty) (f : Nat) {idx a : Nat} {host : String} {v : Value} (hK : tF ci ws a f v) (hd : decode cc pc = .ok (.getfield idx, 3)) (hwd : Cond.fieldLinkNest y.cls idx C (TT f).2.1 (TT f).2.2.1 host ∈ zNest) (hf : f < N := by decide) (hdc : (TT f).1 = C := by rfl) (kk : zS X G nL ws lv k n (pc + 3) (v :: st)) : zS X G nL ws lv k n pc (.ref a :: st) := by
  obtain ⟨q, fs, he, hv⟩ := hK
  exact z_getN hC hF q f hd hwd he hv hf hdc kk
theorem u_putN (hC : zC X l G y cc nL fr lo mc ms) (hw : tW T ws) {ci N : Nat} {C : String} {TT : u_T} {ty : Nat → FieldType} (hF : zF ci C TT N ty) (f : Nat) {idx a : Nat} {host : String} {ts : List (Value → Prop)} {t : Value → Prop} {v : Value} (hq : tHas T a (tO ci ts)) (ht : ts[f]? = some t) (hv : t v) (hd : decode cc pc = .ok (.putfield idx, 3)) (hwd : Cond.fieldLinkNest y.cls idx C (TT f).2.1 (TT f).2.2.1 host ∈ zNest) (hfin : (TT f).2.2.2 = false) (hn : narrow (ty f) v = v) (hfit : fits (ty f) v = true) (hlen : ts.length = N := by rfl) (hf : f < N := by decide) (hdc : (TT f).1 = C := by rfl) (kk : ∀ ws', tW T ws' → tF ci ws' a f v → tKeep (2 ^ (64 * ci + f)) ws ws' → zS X G nL ws' lv k n (pc + 3) st) : zS X G nL ws lv k n pc (v :: .ref a :: st) := by
  obtain ⟨q, hq⟩ := hq
  obtain ⟨e, he, fs, rfl, hfl, hts⟩ := hw.cell hq
  refine z_putN hC hF q f _ hd hwd he hfin hn hfit rfl (hfl.trans hlen) hf hdc (kk _ (hw.set hq ⟨_, rfl, by rw [List.length_set]; exact hfl, fun j u hu => ?_⟩) (t_setF he (by omega)) (t_keepF he))
  by_cases hj : f = j
  · subst hj
    rw [ht] at hu
    cases hu
    exact ⟨v, by rw [List.getElem?_set_self (by omega)], hv⟩
  · obtain ⟨x, hx, hxu⟩ := hts j u hu
    exact ⟨x, by rw [List.getElem?_set_ne hj]; exact hx, hxu⟩

theorem u_iast (hC : zC X l G y cc nL fr lo mc ms) (hw : tW T ws) {a N : Nat} {R : Nat → Int32 → Prop} {i x : Int32} (hq : tHas T a (tAI (G.2.1 0) N R)) (hd : decode cc pc = .ok (.iastore, 1)) (hi : vp_in i N) (hR : R i.toNatClampNeg x) (kk : ∀ ws', tW T ws' → tKeep 0 ws ws' → zS X G nL ws' lv k n (pc + 1) st) : zS X G nL ws lv k n pc (.int x :: .int i :: .ref a :: st) := by
  obtain ⟨q, hq⟩ := hq
  obtain ⟨e, he, f, rfl, hf⟩ := hw.cell hq
  refine z_iast hC q _ hd he hi rfl rfl (kk _ (hw.set hq ⟨_, rfl, fun j hj => ?_⟩) (t_keepA he))
  by_cases h : j = i.toNatClampNeg
  · subst h
    rw [show ∀ z, upd f i.toNatClampNeg z i.toNatClampNeg = z from fun z => by simp [upd]]
    exact hR
  · rw [show ∀ z, upd f i.toNatClampNeg z j = f j from fun z => by simp [upd, h]]
    exact hf j hj

theorem u_bast (hC : zC X l G y cc nL fr lo mc ms) (hw : tW T ws) {a N : Nat} {R : Nat → Int32 → Prop} {i x : Int32} (hq : tHas T a (tAI (G.2.1 1) N R)) (hd : decode cc pc = .ok (.bastore, 1)) (hi : vp_in i N) (hR : R i.toNatClampNeg (vp_nar .byte x)) (kk : ∀ ws', tW T ws' → tKeep 0 ws ws' → zS X G nL ws' lv k n (pc + 1) st) : zS X G nL ws lv k n pc (.int x :: .int i :: .ref a :: st) := by
  obtain ⟨q, hq⟩ := hq
  obtain ⟨e, he, f, rfl, hf⟩ := hw.cell hq
  refine z_bast hC q _ hd he hi rfl rfl (kk _ (hw.set hq ⟨_, rfl, fun j hj => ?_⟩) (t_keepA he))
  by_cases h : j = i.toNatClampNeg
  · subst h
    rw [show ∀ z, upd f i.toNatClampNeg z i.toNatClampNeg = z from fun z => by simp [upd]]
    exact hR
  · rw [show ∀ z, upd f i.toNatClampNeg z j = f j from fun z => by simp [upd, h]]
    exact hf j hj

theorem u_zast (hC : zC X l G y cc nL fr lo mc ms) (hw : tW T ws) {a N : Nat} {R : Nat → Int32 → Prop} {i x : Int32} (hq : tHas T a (tAI (G.2.1 3) N R)) (hd : decode cc pc = .ok (.bastore, 1)) (hi : vp_in i N) (hR : R i.toNatClampNeg (vp_nar .boolean x)) (kk : ∀ ws', tW T ws' → tKeep 0 ws ws' → zS X G nL ws' lv k n (pc + 1) st) : zS X G nL ws lv k n pc (.int x :: .int i :: .ref a :: st) := by
  obtain ⟨q, hq⟩ := hq
  obtain ⟨e, he, f, rfl, hf⟩ := hw.cell hq
  refine z_zast hC q _ hd he hi rfl rfl (kk _ (hw.set hq ⟨_, rfl, fun j hj => ?_⟩) (t_keepA he))
  by_cases h : j = i.toNatClampNeg
  · subst h
    rw [show ∀ z, upd f i.toNatClampNeg z i.toNatClampNeg = z from fun z => by simp [upd]]
    exact hR
  · rw [show ∀ z, upd f i.toNatClampNeg z j = f j from fun z => by simp [upd, h]]
    exact hf j hj

theorem u_last (hC : zC X l G y cc nL fr lo mc ms) (hw : tW T ws) {a N : Nat} {R : Nat → Int64 → Prop} {i : Int32} {x : Int64} (hq : tHas T a (tAL (G.2.1 2) N R)) (hd : decode cc pc = .ok (.lastore, 1)) (hi : vp_in i N) (hR : R i.toNatClampNeg x) (kk : ∀ ws', tW T ws' → tKeep 0 ws ws' → zS X G nL ws' lv k n (pc + 1) st) : zS X G nL ws lv k n pc (.long x :: .int i :: .ref a :: st) := by
  obtain ⟨q, hq⟩ := hq
  obtain ⟨e, he, f, rfl, hf⟩ := hw.cell hq
  refine z_last hC q _ hd he hi rfl rfl (kk _ (hw.set hq ⟨_, rfl, fun j hj => ?_⟩) (t_keepA he))
  by_cases h : j = i.toNatClampNeg
  · subst h
    rw [show ∀ z, vp_updL f i.toNatClampNeg z i.toNatClampNeg = z from fun z => by simp [vp_updL]]
    exact hR
  · rw [show ∀ z, vp_updL f i.toNatClampNeg z j = f j from fun z => by simp [vp_updL, h]]
    exact hf j hj
/-- an array of references: an element -/
theorem u_aald (hC : zC X l G y cc nL fr lo mc ms) (hw : tW T ws) {a N : Nat} {S : List Nat} {i : Int32} (hq : tHas T a (tAR (G.2.1 4) N S)) (hd : decode cc pc = .ok (.aaload, 1)) (hi : vp_in i N) (kk : ∀ v, v ∈ S → zS X G nL ws lv k n (pc + 1) (.ref v :: st)) : zS X G nL ws lv k n pc (.int i :: .ref a :: st) := by
  obtain ⟨q, hq⟩ := hq
  obtain ⟨e, he, f, rfl, hf⟩ := hw.cell hq
  obtain ⟨v, hv, hvS⟩ := hf i.toNatClampNeg (Nat.lt_of_not_le fun h => hi (Or.inr h))
  exact z_aald4 hC q hd he hi hv (kk v hvS)
theorem u_alenI (hC : zC X l G y cc nL fr lo mc ms) (hw : tW T ws) {a N : Nat} {R : Nat → Int32 → Prop} (hq : tHas T a (tAI (G.2.1 0) N R)) (hd : decode cc pc = .ok (.arraylength, 1)) (kk : zS X G nL ws lv k n (pc + 1) (.int (Int32.ofNat N) :: st)) : zS X G nL ws lv k n pc (.ref a :: st) := by
  obtain ⟨q, hq⟩ := hq
  obtain ⟨e, he, f, rfl, hf⟩ := hw.cell hq
  exact z_alen0 hC q hd he rfl kk
theorem u_alenL (hC : zC X l G y cc nL fr lo mc ms) (hw : tW T ws) {a N : Nat} {R : Nat → Int64 → Prop} (hq : tHas T a (tAL (G.2.1 2) N R)) (hd : decode cc pc = .ok (.arraylength, 1)) (kk : zS X G nL ws lv k n (pc + 1) (.int (Int32.ofNat N) :: st)) : zS X G nL ws lv k n pc (.ref a :: st) := by
  obtain ⟨q, hq⟩ := hq
  obtain ⟨e, he, f, rfl, hf⟩ := hw.cell hq
  exact z_alen2 hC q hd he rfl kk
theorem u_alenQ (hC : zC X l G y cc nL fr lo mc ms) (hw : tW T ws) {a N : Nat} {S : List Nat} (hq : tHas T a (tAR (G.2.1 4) N S)) (hd : decode cc pc = .ok (.arraylength, 1)) (kk : zS X G nL ws lv k n (pc + 1) (.int (Int32.ofNat N) :: st)) : zS X G nL ws lv k n pc (.ref a :: st) := by
  obtain ⟨q, hq⟩ := hq
  obtain ⟨e, he, f, rfl, hf⟩ := hw.cell hq
  exact z_alen4 hC q hd he rfl kk
/-- bytes to read: of the world, or the two of TURN -/
def tRB (G : zG) (T : tT) (a N : Nat) : Prop := tHas T a (tAI (G.2.1 1) N (fun _ _ => True)) ∨ (a = G.2.2 0 ∧ N = 2)
theorem u_alenB (hC : zC X l G y cc nL fr lo mc ms) (hw : tW T ws) {a N : Nat} (hq : tRB G T a N) (hd : decode cc pc = .ok (.arraylength, 1)) (kk : zS X G nL ws lv k n (pc + 1) (.int (Int32.ofNat N) :: st)) : zS X G nL ws lv k n pc (.ref a :: st) := by
  rcases hq with ⟨q, hq⟩ | ⟨rfl, rfl⟩
  · obtain ⟨e, he, f, rfl, hf⟩ := hw.cell hq
    exact z_alen1 hC q hd he rfl kk
  · exact z_talen hC hd rfl kk
theorem u_bald (hC : zC X l G y cc nL fr lo mc ms) (hw : tW T ws) {a N : Nat} {i : Int32} (hq : tRB G T a N) (hd : decode cc pc = .ok (.baload, 1)) (hi : vp_in i N) (kk : ∀ v, zS X G nL ws lv k n (pc + 1) (.int v :: st)) : zS X G nL ws lv k n pc (.int i :: .ref a :: st) := by
  rcases hq with hq | ⟨rfl, rfl⟩
  · exact t_bald hC hw hq hd hi (fun v _ => kk v)
  · exact z_tbald hC hd hi rfl (kk _)
end UT
/-- an array of ints, of bytes, of longs, of rows of bytes: of some length -/
def tInts (G : zG) (T : tT) (a : Nat) : Prop := ∃ N : Nat, N < 1048576 ∧ tHas T a (tAI (G.2.1 0) N (fun _ _ => True))
def tByts (G : zG) (T : tT) (a : Nat) : Prop := ∃ N : Nat, N < 1048576 ∧ tHas T a (tAI (G.2.1 1) N (fun _ _ => True))
def tLngs (G : zG) (T : tT) (a : Nat) : Prop := ∃ N : Nat, N < 1048576 ∧ tHas T a (tAL (G.2.1 2) N (fun _ _ => True))
def tRows (G : zG) (T : tT) (S : List Nat) (a : Nat) : Prop := tHas T a (tAR (G.2.1 4) 8 S)
/-- an int that isn't negative -/
def tN : Value → Prop := fun v => ∃ x : Int32, v = .int x ∧ ¬ x < 0
/-- bytes that are only read -/
def tRd (G : zG) (κ : Nat → List Nat) (a : Nat) : Prop := a ∈ κ 21 ∨ a = G.2.2 0
theorem t_inB {i : Int32} {N : Nat} (hN : N < 2 ^ 31) (h0 : ¬ i < 0) (h1 : ¬ Int32.ofNat N ≤ i) : vp_in i N := by
  rw [vp_in_iff]
  rw [Int32.lt_iff_toInt_lt] at h0
  rw [Int32.le_iff_toInt_le] at h1
  have e0 : (0 : Int32).toInt = 0 := by decide
  have e1 : (Int32.ofNat N).toInt = N := nI_toInt hN
  omega

abbrev ts0 (κ : Nat → List Nat) : List (Value → Prop) := [tR (κ 7), tR (κ 2), tI, tI, tI]
abbrev ts1 (κ : Nat → List Nat) : List (Value → Prop) := [tR (κ 24), tR (κ 29), tR (κ 7), tR (κ 2), tR (κ 10), tR (κ 20), tR (κ 20), tI, tR (κ 20), tR (κ 20), tI, tI, tR (κ 20), tR (κ 20), tI, tI, tI, tI, tZ]
abbrev ts2 (κ : Nat → List Nat) : List (Value → Prop) := [tR (κ 6), tR (κ 4), tR (κ 20), tI, tR (κ 21), tR (κ 20), tI, tR (κ 20), tI, tR (κ 20), tI, tR (κ 20), tI, tR (κ 20), tR (κ 20), tR (κ 20), tI]
abbrev ts3 (κ : Nat → List Nat) : List (Value → Prop) := [tR (κ 8), tR (κ 9), tR (κ 2), tR (κ 28), tR (κ 20), tR (κ 20), tR (κ 20), tI, tR (κ 20), tI, tI, tR (κ 21), tI, tR (κ 20), tR (κ 20), tI, tR (κ 21), tI, tI, tR (κ 21)]
abbrev ts4 (κ : Nat → List Nat) : List (Value → Prop) := [tR (κ 20), tR (κ 20), tR (κ 20), tR (κ 20), tR (κ 20), tI]
abbrev ts5 (κ : Nat → List Nat) : List (Value → Prop) := [tR (κ 9), tR (κ 11), tR (κ 3), tR (κ 2), tR (κ 20), tI, tR (κ 20), tI, tI, tI, tI, tI, tI, tI, tI, tI, tI, tI, tI, tZ, tI]
abbrev ts6 (κ : Nat → List Nat) : List (Value → Prop) := [tR (κ 21), tR (κ 20), tR (κ 20), tR (κ 20), tI, tI]
abbrev ts7 (κ : Nat → List Nat) : List (Value → Prop) := [tR (κ 21), tZ, tR (κ 21), tR (κ 20), tI, tI, tI, tI, tI, tR (κ 21), tI, tI]
abbrev ts8 (κ : Nat → List Nat) : List (Value → Prop) := [tR (κ 20), tR (κ 22), tR (κ 20), tR (κ 20), tR (κ 20), tR (κ 20), tR (κ 21), tN, tI, tI, tR (κ 21), tR (κ 20), tR (κ 20), tI]
abbrev ts9 (κ : Nat → List Nat) : List (Value → Prop) := [tR (κ 20), tR (κ 20), tR (κ 25)]
abbrev ts10 (κ : Nat → List Nat) : List (Value → Prop) := [tR (κ 7), tR (κ 2), tI, tI, tI, tI, tI, tI, tZ, tI, tI, tZ, tI, tI, tI, tZ, tI]
abbrev ts11 (κ : Nat → List Nat) : List (Value → Prop) := [tR (κ 9), tR (κ 26), tR (κ 20), tI, tI, tI, tZ, tI, tI, tR (κ 21), tI, tR (κ 21), tR (κ 20), tI, tI, tI]
abbrev ts12 (κ : Nat → List Nat) : List (Value → Prop) := [tR (κ 21), tR (κ 21), tI, tR (κ 24), tR (κ 29), tR (κ 8), tR (κ 7), tR (κ 2), tR (κ 2), tR (κ 1), tR (κ 0), tR (κ 5), tI, tI, tI, tI, tI, tI, tI]
def tE (G : zG) (T : tT) (κ : Nat → List Nat) : Prop := (∀ a ∈ κ 20, tInts G T a) ∧ (∀ a ∈ κ 21, tByts G T a) ∧ (∀ a ∈ κ 22, tLngs G T a) ∧ (∀ a ∈ κ 24, tRows G T (κ 21) a) ∧ (∀ a ∈ κ 25, tHas T a (tAI (G.2.1 0) 3 (fun _ _ => True))) ∧ (∀ a ∈ κ 25, a ∈ κ 20) ∧ (∀ a ∈ κ 26, tHas T a (tAI (G.2.1 1) 12000 (fun _ _ => True))) ∧ (∀ a ∈ κ 26, a ∈ κ 21) ∧ (∀ a ∈ κ 28, tHas T a (tAI (G.2.1 0) 2000 (fun _ _ => True))) ∧ (∀ a ∈ κ 28, a ∈ κ 20) ∧ (∀ a ∈ κ 29, tHas T a (tAI (G.2.1 0) 8 (fun _ _ => True))) ∧ (∀ a ∈ κ 29, a ∈ κ 20) ∧ (∀ a ∈ κ 0, tHas T a (tO 0 (ts0 κ))) ∧ (∀ a ∈ κ 1, tHas T a (tO 1 (ts1 κ))) ∧ (∀ a ∈ κ 2, tHas T a (tO 2 (ts2 κ))) ∧ (∀ a ∈ κ 3, tHas T a (tO 3 (ts3 κ))) ∧ (∀ a ∈ κ 4, tHas T a (tO 4 (ts4 κ))) ∧ (∀ a ∈ κ 5, tHas T a (tO 5 (ts5 κ))) ∧ (∀ a ∈ κ 6, tHas T a (tO 6 (ts6 κ))) ∧ (∀ a ∈ κ 7, tHas T a (tO 7 (ts7 κ))) ∧ (∀ a ∈ κ 8, tHas T a (tO 8 (ts8 κ))) ∧ (∀ a ∈ κ 9, tHas T a (tO 9 (ts9 κ))) ∧ (∀ a ∈ κ 10, tHas T a (tO 10 (ts10 κ))) ∧ (∀ a ∈ κ 11, tHas T a (tO 11 (ts11 κ))) ∧ (∀ a ∈ κ 12, tHas T a (tO 12 (ts12 κ)))
theorem tE.ints {G : zG} {T : tT} {κ : Nat → List Nat} (h : tE G T κ) {a : Nat} (ha : a ∈ κ 20) : tInts G T a := h.1 a ha
theorem tE.byts {G : zG} {T : tT} {κ : Nat → List Nat} (h : tE G T κ) {a : Nat} (ha : a ∈ κ 21) : tByts G T a := h.2.1 a ha
theorem tE.lngs {G : zG} {T : tT} {κ : Nat → List Nat} (h : tE G T κ) {a : Nat} (ha : a ∈ κ 22) : tLngs G T a := h.2.2.1 a ha
theorem tE.rows {G : zG} {T : tT} {κ : Nat → List Nat} (h : tE G T κ) {a : Nat} (ha : a ∈ κ 24) : tRows G T (κ 21) a := h.2.2.2.1 a ha
theorem tE.three {G : zG} {T : tT} {κ : Nat → List Nat} (h : tE G T κ) {a : Nat} (ha : a ∈ κ 25) : tHas T a (tAI (G.2.1 0) 3 (fun _ _ => True)) := h.2.2.2.2.1 a ha
theorem tE.sub3 {G : zG} {T : tT} {κ : Nat → List Nat} (h : tE G T κ) {a : Nat} (ha : a ∈ κ 25) : a ∈ κ 20 := h.2.2.2.2.2.1 a ha
theorem tE.text {G : zG} {T : tT} {κ : Nat → List Nat} (h : tE G T κ) {a : Nat} (ha : a ∈ κ 26) : tHas T a (tAI (G.2.1 1) 12000 (fun _ _ => True)) := h.2.2.2.2.2.2.1 a ha
theorem tE.sub12 {G : zG} {T : tT} {κ : Nat → List Nat} (h : tE G T κ) {a : Nat} (ha : a ∈ κ 26) : a ∈ κ 21 := h.2.2.2.2.2.2.2.1 a ha
theorem tE.insts {G : zG} {T : tT} {κ : Nat → List Nat} (h : tE G T κ) {a : Nat} (ha : a ∈ κ 28) : tHas T a (tAI (G.2.1 0) 2000 (fun _ _ => True)) := h.2.2.2.2.2.2.2.2.1 a ha
theorem tE.subT {G : zG} {T : tT} {κ : Nat → List Nat} (h : tE G T κ) {a : Nat} (ha : a ∈ κ 28) : a ∈ κ 20 := h.2.2.2.2.2.2.2.2.2.1 a ha
theorem tE.eight {G : zG} {T : tT} {κ : Nat → List Nat} (h : tE G T κ) {a : Nat} (ha : a ∈ κ 29) : tHas T a (tAI (G.2.1 0) 8 (fun _ _ => True)) := h.2.2.2.2.2.2.2.2.2.2.1 a ha
theorem tE.sub8 {G : zG} {T : tT} {κ : Nat → List Nat} (h : tE G T κ) {a : Nat} (ha : a ∈ κ 29) : a ∈ κ 20 := h.2.2.2.2.2.2.2.2.2.2.2.1 a ha
theorem tE.o0 {G : zG} {T : tT} {κ : Nat → List Nat} (h : tE G T κ) {a : Nat} (ha : a ∈ κ 0) : tHas T a (tO 0 (ts0 κ)) := h.2.2.2.2.2.2.2.2.2.2.2.2.1 a ha
theorem tE.o1 {G : zG} {T : tT} {κ : Nat → List Nat} (h : tE G T κ) {a : Nat} (ha : a ∈ κ 1) : tHas T a (tO 1 (ts1 κ)) := h.2.2.2.2.2.2.2.2.2.2.2.2.2.1 a ha
theorem tE.o2 {G : zG} {T : tT} {κ : Nat → List Nat} (h : tE G T κ) {a : Nat} (ha : a ∈ κ 2) : tHas T a (tO 2 (ts2 κ)) := h.2.2.2.2.2.2.2.2.2.2.2.2.2.2.1 a ha
theorem tE.o3 {G : zG} {T : tT} {κ : Nat → List Nat} (h : tE G T κ) {a : Nat} (ha : a ∈ κ 3) : tHas T a (tO 3 (ts3 κ)) := h.2.2.2.2.2.2.2.2.2.2.2.2.2.2.2.1 a ha
theorem tE.o4 {G : zG} {T : tT} {κ : Nat → List Nat} (h : tE G T κ) {a : Nat} (ha : a ∈ κ 4) : tHas T a (tO 4 (ts4 κ)) := h.2.2.2.2.2.2.2.2.2.2.2.2.2.2.2.2.1 a ha
theorem tE.o5 {G : zG} {T : tT} {κ : Nat → List Nat} (h : tE G T κ) {a : Nat} (ha : a ∈ κ 5) : tHas T a (tO 5 (ts5 κ)) := h.2.2.2.2.2.2.2.2.2.2.2.2.2.2.2.2.2.1 a ha
theorem tE.o6 {G : zG} {T : tT} {κ : Nat → List Nat} (h : tE G T κ) {a : Nat} (ha : a ∈ κ 6) : tHas T a (tO 6 (ts6 κ)) := h.2.2.2.2.2.2.2.2.2.2.2.2.2.2.2.2.2.2.1 a ha
theorem tE.o7 {G : zG} {T : tT} {κ : Nat → List Nat} (h : tE G T κ) {a : Nat} (ha : a ∈ κ 7) : tHas T a (tO 7 (ts7 κ)) := h.2.2.2.2.2.2.2.2.2.2.2.2.2.2.2.2.2.2.2.1 a ha
theorem tE.o8 {G : zG} {T : tT} {κ : Nat → List Nat} (h : tE G T κ) {a : Nat} (ha : a ∈ κ 8) : tHas T a (tO 8 (ts8 κ)) := h.2.2.2.2.2.2.2.2.2.2.2.2.2.2.2.2.2.2.2.2.1 a ha
theorem tE.o9 {G : zG} {T : tT} {κ : Nat → List Nat} (h : tE G T κ) {a : Nat} (ha : a ∈ κ 9) : tHas T a (tO 9 (ts9 κ)) := h.2.2.2.2.2.2.2.2.2.2.2.2.2.2.2.2.2.2.2.2.2.1 a ha
theorem tE.o10 {G : zG} {T : tT} {κ : Nat → List Nat} (h : tE G T κ) {a : Nat} (ha : a ∈ κ 10) : tHas T a (tO 10 (ts10 κ)) := h.2.2.2.2.2.2.2.2.2.2.2.2.2.2.2.2.2.2.2.2.2.2.1 a ha
theorem tE.o11 {G : zG} {T : tT} {κ : Nat → List Nat} (h : tE G T κ) {a : Nat} (ha : a ∈ κ 11) : tHas T a (tO 11 (ts11 κ)) := h.2.2.2.2.2.2.2.2.2.2.2.2.2.2.2.2.2.2.2.2.2.2.2.1 a ha
theorem tE.o12 {G : zG} {T : tT} {κ : Nat → List Nat} (h : tE G T κ) {a : Nat} (ha : a ∈ κ 12) : tHas T a (tO 12 (ts12 κ)) := h.2.2.2.2.2.2.2.2.2.2.2.2.2.2.2.2.2.2.2.2.2.2.2.2 a ha
theorem tE.rd {G : zG} {T : tT} {κ : Nat → List Nat} (h : tE G T κ) {a : Nat} (ha : tRd G κ a) : ∃ N : Nat, N < 1048576 ∧ tRB G T a N := by
  rcases ha with ha | rfl
  · obtain ⟨N, h1, h2⟩ := h.byts ha
    exact ⟨N, h1, Or.inl h2⟩
  · exact ⟨2, by decide, Or.inr ⟨rfl, rfl⟩⟩
/-- contracts of the class: nothing new, fields kept but W -/
abbrev uPi (W : Nat) : va_W → tPi := fun ws _ c n w => c = 0 ∧ n = 0 ∧ tKeep W ws w
abbrev uPv (W : Nat) : va_W → tPv := fun ws c n w => c = 0 ∧ n = 0 ∧ tKeep W ws w
abbrev uT : va_W → Prop := fun _ => True
theorem t_inc {x y : Int32} (h : x < y) : (x + 1).toInt = x.toInt + 1 := by
  rw [Int32.lt_iff_toInt_lt] at h
  have h0 := x.le_toInt
  have h1 := y.toInt_lt
  rw [Int32.toInt_add, show (1 : Int32).toInt = 1 from by decide]
  exact Int.bmod_eq_of_le (by omega) (by omega)
theorem t_dec {x y : Int32} (h : y < x) : (x + -1).toInt = x.toInt - 1 := by
  rw [Int32.lt_iff_toInt_lt] at h
  have h0 := y.le_toInt
  have h1 := x.toInt_lt
  rw [Int32.toInt_add, show (-1 : Int32).toInt = -1 from by decide]
  exact Int.bmod_eq_of_le (by omega) (by omega)
theorem t_up {x y : Int32} {d : Nat} (h : x < y) (hd : (2 ^ 31 - x.toInt).toNat ≤ d + 1) : (2 ^ 31 - (x + 1).toInt).toNat ≤ d := by
  have e := t_inc h
  have h1 := x.toInt_lt
  omega
theorem t_zero {x : Int32} (hd : (2 ^ 31 - x.toInt).toNat ≤ 0) : False := by
  have h1 := x.toInt_lt
  omega
theorem t_down {x : Int32} {d : Nat} (h : 0 ≤ x) (hd : (x.toInt + 1).toNat + 1 ≤ d + 1) : ((x + -1).toInt + 1).toNat + 1 ≤ d := by
  have e : (x + -1).toInt = x.toInt - 1 := by
    rw [Int32.le_iff_toInt_le] at h
    have h1 := x.toInt_lt
    have e0 : (0 : Int32).toInt = 0 := by decide
    rw [Int32.toInt_add, show (-1 : Int32).toInt = -1 from by decide]
    exact Int.bmod_eq_of_le (by omega) (by omega)
  rw [Int32.le_iff_toInt_le] at h
  have e0 : (0 : Int32).toInt = 0 := by decide
  omega

