/-! THE TYPED WORLD: of each cell its class and the types of its fields, or its length and the type of its elements; loads give some value of the type, stores leave the typing as it is. -/
abbrev tT : Type := List (Nat × (va_E → Prop))
def tW (T : tT) (ws : va_W) : Prop := ws.length = T.length ∧ ∀ (k : Nat) (t : Nat × (va_E → Prop)), T[k]? = some t → ∃ e, ws[k]? = some (t.1, e) ∧ t.2 e
/-- a cell of the typing -/
def tHas (T : tT) (a : Nat) (t : va_E → Prop) : Prop := ∃ q : Nat, T[q]? = some (a, t)
/-- arrays of ints (0), bytes (1), booleans (3); of longs; of references -/
def tAI (c : ClassId) (N : Nat) (R : Nat → Int32 → Prop) : va_E → Prop := fun e => ∃ f : Nat → Int32, e = .inl (c, N, .inl f) ∧ ∀ j, j < N → R j (f j)
def tAL (c : ClassId) (N : Nat) (R : Nat → Int64 → Prop) : va_E → Prop := fun e => ∃ f : Nat → Int64, e = .inl (c, N, .inr (.inl f)) ∧ ∀ j, j < N → R j (f j)
def tAR (c : ClassId) (N : Nat) (S : List Nat) : va_E → Prop := fun e => ∃ f : Nat → Option Nat, e = .inl (c, N, .inr (.inr (.inr (.inr f)))) ∧ ∀ j, j < N → ∃ v, f j = some v ∧ v ∈ S
/-- objects -/
def tO (ci : Nat) (ts : List (Value → Prop)) : va_E → Prop := fun e => ∃ fs : List Value, e = .inr (ci, fs) ∧ fs.length = ts.length ∧ ∀ (k : Nat) (t : Value → Prop), ts[k]? = some t → ∃ v, fs[k]? = some v ∧ t v
def tI : Value → Prop := fun v => ∃ x : Int32, v = .int x
def tZ : Value → Prop := fun v => v = .int 0 ∨ v = .int 1
def tJ : Value → Prop := fun v => ∃ x : Int64, v = .long x
def tR (S : List Nat) : Value → Prop := fun v => ∃ a, a ∈ S ∧ v = .ref a
theorem tW.cell {T : tT} {ws : va_W} (h : tW T ws) {q a : Nat} {t : va_E → Prop} (hq : T[q]? = some (a, t)) : ∃ e, ws[q]? = some (a, e) ∧ t e := h.2 q (a, t) hq
theorem tW.set {T : tT} {ws : va_W} (h : tW T ws) {q a : Nat} {t : va_E → Prop} (hq : T[q]? = some (a, t)) {e : va_E} (he : t e) : tW T (ws.set q (a, e)) := by
  refine ⟨by rw [List.length_set]; exact h.1, fun k u hk => ?_⟩
  by_cases hqk : q = k
  · subst hqk
    rw [hq] at hk
    cases hk
    obtain ⟨e0, h0, -⟩ := h.2 q (a, t) hq
    have hl : q < ws.length := (List.getElem?_eq_some_iff.mp h0).1
    exact ⟨e, by rw [List.getElem?_set_self hl], he⟩
  · obtain ⟨e0, h0, h1⟩ := h.2 k u hk
    exact ⟨e0, by rw [List.getElem?_set_ne hqk]; exact h0, h1⟩
theorem t_range : ∀ (ws : va_W), (List.range ws.length).map (fun i => ws[i]?) = ws.map some := by
  intro ws
  apply List.ext_getElem?
  intro i
  by_cases hi : i < ws.length
  · simp [List.getElem?_map, List.getElem?_range, hi]
  · simp [List.getElem?_map, Nat.le_of_not_lt hi]
section TI
variable {X : zX} {l : Launch} {G : zG} {y : MethodName} {cc : ByteArray} {nL fr lo mc ms : Nat} {ws : va_W} {lv : List (Nat × Value)} {k n pc : Nat} {st : List Value} {T : tT}

theorem t_get (hC : zC X l G y cc nL fr lo mc ms) (hw : tW T ws) {ci N : Nat} {C : String} {TT : u_T} {ty : Nat → FieldType} (hF : zF ci C TT N ty) (f : Nat) {idx a q : Nat} {ts : List (Value → Prop)} {t : Value → Prop} (hq : T[q]? = some (a, tO ci ts)) (ht : ts[f]? = some t) (hd : decode cc pc = .ok (.getfield idx, 3)) (hwd : Cond.fieldLink y.cls idx C (TT f).2.1 (TT f).2.2.1 ∈ zT) (hf : f < N := by decide) (hdc : (TT f).1 = C := by rfl) (kk : ∀ v, t v → zS X G nL ws lv k n (pc + 3) (v :: st)) : zS X G nL ws lv k n pc (.ref a :: st) := by
  obtain ⟨e, he, fs, rfl, -, hts⟩ := hw.cell hq
  obtain ⟨v, hv, htv⟩ := hts f t ht
  exact z_get hC hF q f hd hwd he hv hf hdc (kk v htv)

theorem t_put (hC : zC X l G y cc nL fr lo mc ms) (hw : tW T ws) {ci N : Nat} {C : String} {TT : u_T} {ty : Nat → FieldType} (hF : zF ci C TT N ty) (f : Nat) {idx a q : Nat} {ts : List (Value → Prop)} {t : Value → Prop} {v : Value} (hq : T[q]? = some (a, tO ci ts)) (ht : ts[f]? = some t) (hv : t v) (hd : decode cc pc = .ok (.putfield idx, 3)) (hwd : Cond.fieldLink y.cls idx C (TT f).2.1 (TT f).2.2.1 ∈ zT) (hfin : (TT f).2.2.2 = false) (hn : narrow (ty f) v = v) (hfit : fits (ty f) v = true) (hlen : ts.length = N := by rfl) (hf : f < N := by decide) (hdc : (TT f).1 = C := by rfl) (kk : ∀ ws, tW T ws → zS X G nL ws lv k n (pc + 3) st) : zS X G nL ws lv k n pc (v :: .ref a :: st) := by
  obtain ⟨e, he, fs, rfl, hfl, hts⟩ := hw.cell hq
  refine z_put hC hF q f _ hd hwd he hfin hn hfit rfl (hfl.trans hlen) hf hdc (kk _ (hw.set hq ⟨_, rfl, by rw [List.length_set]; exact hfl, fun j u hu => ?_⟩))
  by_cases hj : f = j
  · subst hj
    rw [ht] at hu
    cases hu
    exact ⟨v, by rw [List.getElem?_set_self (by omega)], hv⟩
  · obtain ⟨x, hx, hxu⟩ := hts j u hu
    exact ⟨x, by rw [List.getElem?_set_ne hj]; exact hx, hxu⟩

theorem t_iald (hC : zC X l G y cc nL fr lo mc ms) (hw : tW T ws) {a N : Nat} {R : Nat → Int32 → Prop} {i : Int32} (hq : tHas T a (tAI (G.2.1 0) N R)) (hd : decode cc pc = .ok (.iaload, 1)) (hi : vp_in i N) (kk : ∀ v, R i.toNatClampNeg v → zS X G nL ws lv k n (pc + 1) (.int v :: st)) : zS X G nL ws lv k n pc (.int i :: .ref a :: st) := by
  obtain ⟨q, hq⟩ := hq
  obtain ⟨e, he, f, rfl, hf⟩ := hw.cell hq
  exact z_iald hC q hd he hi rfl (kk _ (hf _ (Nat.lt_of_not_le fun h => hi (Or.inr h))))
theorem t_bald (hC : zC X l G y cc nL fr lo mc ms) (hw : tW T ws) {a N : Nat} {R : Nat → Int32 → Prop} {i : Int32} (hq : tHas T a (tAI (G.2.1 1) N R)) (hd : decode cc pc = .ok (.baload, 1)) (hi : vp_in i N) (kk : ∀ v, R i.toNatClampNeg v → zS X G nL ws lv k n (pc + 1) (.int v :: st)) : zS X G nL ws lv k n pc (.int i :: .ref a :: st) := by
  obtain ⟨q, hq⟩ := hq
  obtain ⟨e, he, f, rfl, hf⟩ := hw.cell hq
  exact z_bald hC q hd he hi rfl (kk _ (hf _ (Nat.lt_of_not_le fun h => hi (Or.inr h))))
theorem t_zald (hC : zC X l G y cc nL fr lo mc ms) (hw : tW T ws) {a N : Nat} {R : Nat → Int32 → Prop} {i : Int32} (hq : tHas T a (tAI (G.2.1 3) N R)) (hd : decode cc pc = .ok (.baload, 1)) (hi : vp_in i N) (kk : ∀ v, R i.toNatClampNeg v → zS X G nL ws lv k n (pc + 1) (.int v :: st)) : zS X G nL ws lv k n pc (.int i :: .ref a :: st) := by
  obtain ⟨q, hq⟩ := hq
  obtain ⟨e, he, f, rfl, hf⟩ := hw.cell hq
  exact z_zald hC q hd he hi rfl (kk _ (hf _ (Nat.lt_of_not_le fun h => hi (Or.inr h))))
theorem t_lald (hC : zC X l G y cc nL fr lo mc ms) (hw : tW T ws) {a N : Nat} {R : Nat → Int64 → Prop} {i : Int32} (hq : tHas T a (tAL (G.2.1 2) N R)) (hd : decode cc pc = .ok (.laload, 1)) (hi : vp_in i N) (kk : ∀ v, R i.toNatClampNeg v → zS X G nL ws lv k n (pc + 1) (.long v :: st)) : zS X G nL ws lv k n pc (.int i :: .ref a :: st) := by
  obtain ⟨q, hq⟩ := hq
  obtain ⟨e, he, f, rfl, hf⟩ := hw.cell hq
  exact z_lald hC q hd he hi rfl (kk _ (hf _ (Nat.lt_of_not_le fun h => hi (Or.inr h))))
theorem t_iast (hC : zC X l G y cc nL fr lo mc ms) (hw : tW T ws) {a N : Nat} {R : Nat → Int32 → Prop} {i x : Int32} (hq : tHas T a (tAI (G.2.1 0) N R)) (hd : decode cc pc = .ok (.iastore, 1)) (hi : vp_in i N) (hR : R i.toNatClampNeg x) (kk : ∀ ws, tW T ws → zS X G nL ws lv k n (pc + 1) st) : zS X G nL ws lv k n pc (.int x :: .int i :: .ref a :: st) := by
  obtain ⟨q, hq⟩ := hq
  obtain ⟨e, he, f, rfl, hf⟩ := hw.cell hq
  refine z_iast hC q _ hd he hi rfl rfl (kk _ (hw.set hq ⟨_, rfl, fun j hj => ?_⟩))
  by_cases h : j = i.toNatClampNeg
  · subst h
    rw [show ∀ z, upd f i.toNatClampNeg z i.toNatClampNeg = z from fun z => by simp [upd]]
    exact hR
  · rw [show ∀ z, upd f i.toNatClampNeg z j = f j from fun z => by simp [upd, h]]
    exact hf j hj

theorem t_bast (hC : zC X l G y cc nL fr lo mc ms) (hw : tW T ws) {a N : Nat} {R : Nat → Int32 → Prop} {i x : Int32} (hq : tHas T a (tAI (G.2.1 1) N R)) (hd : decode cc pc = .ok (.bastore, 1)) (hi : vp_in i N) (hR : R i.toNatClampNeg (vp_nar .byte x)) (kk : ∀ ws, tW T ws → zS X G nL ws lv k n (pc + 1) st) : zS X G nL ws lv k n pc (.int x :: .int i :: .ref a :: st) := by
  obtain ⟨q, hq⟩ := hq
  obtain ⟨e, he, f, rfl, hf⟩ := hw.cell hq
  refine z_bast hC q _ hd he hi rfl rfl (kk _ (hw.set hq ⟨_, rfl, fun j hj => ?_⟩))
  by_cases h : j = i.toNatClampNeg
  · subst h
    rw [show ∀ z, upd f i.toNatClampNeg z i.toNatClampNeg = z from fun z => by simp [upd]]
    exact hR
  · rw [show ∀ z, upd f i.toNatClampNeg z j = f j from fun z => by simp [upd, h]]
    exact hf j hj

theorem t_zast (hC : zC X l G y cc nL fr lo mc ms) (hw : tW T ws) {a N : Nat} {R : Nat → Int32 → Prop} {i x : Int32} (hq : tHas T a (tAI (G.2.1 3) N R)) (hd : decode cc pc = .ok (.bastore, 1)) (hi : vp_in i N) (hR : R i.toNatClampNeg (vp_nar .boolean x)) (kk : ∀ ws, tW T ws → zS X G nL ws lv k n (pc + 1) st) : zS X G nL ws lv k n pc (.int x :: .int i :: .ref a :: st) := by
  obtain ⟨q, hq⟩ := hq
  obtain ⟨e, he, f, rfl, hf⟩ := hw.cell hq
  refine z_zast hC q _ hd he hi rfl rfl (kk _ (hw.set hq ⟨_, rfl, fun j hj => ?_⟩))
  by_cases h : j = i.toNatClampNeg
  · subst h
    rw [show ∀ z, upd f i.toNatClampNeg z i.toNatClampNeg = z from fun z => by simp [upd]]
    exact hR
  · rw [show ∀ z, upd f i.toNatClampNeg z j = f j from fun z => by simp [upd, h]]
    exact hf j hj

end TI
