/-! methods with a table of their own, methods that throw -/
abbrev zWsW (y : MethodName) (b : ByteArray) (nL : Nat) (ret : Option FieldType) (hh : List (Nat × Nat × Nat × Nat)) : List Cond := .codeWith y b nL ret hh :: zT
def zMiW (l : Launch) (G : zG) (y : MethodName) (b : ByteArray) (nL : Nat) (ty : FieldType) (hh : List (Nat × Nat × Nat × Nat)) (fr lo mc ms : Nat) (av : List Value) (ws : va_W) (post : Int32 → va_W → Prop) : Prop :=
  ∀ sz : Nat, Met l y (zWsW y b nL (some ty) hh) { frames := fr, cells := mc, slots := ms, locals := lo } (zPc G sz av ws) (va_Qi post (zB G (va_A ws sz)) (va_A ws sz)) mc ms (va_A ws sz)
/-- the method's own table -/
def zTab : zX → List (Nat × Nat × Nat × Nat) → Prop := fun (_, _, _, _, _, _, _, _, _, c, _, _) hh => c.exceptionTable.toList = tableOf hh
theorem zofWH {l : Launch} {y : MethodName} {ws ws' : List Cond} {rm : Room} {Pc : Array Value → State → Prop} {Qc : Array Value → State → Outcome → State → Prop} {mc ms : Nat} {free : Addr → Prop} {cc : ByteArray} {maxL : Nat} {ret : Option FieldType} {hh : List (Nat × Nat × Nat × Nat)}
    (hy : plainName y.cls = true) (hw : ws = Cond.codeWith y cc maxL ret hh :: ws')
    (body : ∀ p e s m args below meth c s₁, BodyLoose p l y (headSpec ws rm) cc maxL ret e s m args below meth c s₁ → c.maxLocals = maxL → c.exceptionTable.toList = tableOf hh → Pc args s →
      W p l e (headSpec ws rm).room s m args below meth c s.heap [] 0 0 (MQ below Qc args s mc ms free) (entryFrame m args maxL)) : Met l y ws rm Pc Qc mc ms free := by
  refine MetFree.of_bodyS (code := cc) (maxLocals := maxL) (ret := ret) hy ?_ ?_
  · intro args s m h hn
    obtain ⟨m9, meth, c, hn9, h1, h2, h3, h4, -, h5, h6, -⟩ := Cond.codeWith_spec (atoms_spec (ws := ws) h _ (by rw [hw]; exact List.mem_cons_self))
    cases hn.symm.trans hn9
    exact ⟨meth, c, h1, h2, h3, h4, h5, h6⟩
  · intro p e s m args below meth c s₁ B hml hP _
    have hh0 : s₁.heap = s.heap := by rw [B.state]; rfl
    have htab := vx_table (x := y) (hh := hh) (bytes := cc) (maxL' := maxL) (ret' := ret) B (atoms_spec (ws := ws) B.pre _ (by rw [hw]; exact List.mem_cons_self))
    obtain ⟨t, a1, o, b1, b2, b3⟩ := body p e s m args below meth c s₁ B hml htab hP s₁ hh0 (Stand.of_body B)
    exact ⟨t, o, a1, b1, b2, ⟨b3.1, b3.2⟩⟩
theorem zMiW.intro {l : Launch} {G : zG} {y : MethodName} {b : ByteArray} {nL : Nat} {ty : FieldType} {hh : List (Nat × Nat × Nat × Nat)} {fr lo mc ms : Nat} {av : List Value} {ws : va_W} {post : Int32 → va_W → Prop} (hy : plainName y.cls = true) (hav : (lg_sl av).length ≤ nL)
    (body : ∀ X : zX, zC X l G y b nL fr lo mc ms → zTab X hh → zRi X G nL b ty mc ms post → zS X G nL ws (lv_args 0 av) 0 0 0 []) : zMiW l G y b nL ty hh fr lo mc ms av ws post := by
  intro sz
  refine zofWH (cc := b) (maxL := nL) (ret := some ty) (hh := hh) hy rfl ?_
  intro p e s m args below meth c s₁ B hml htab hv
  obtain ⟨rfl, hsz, hP, hK, hD0⟩ := hv
  subst hsz
  have hts := atoms_spec (ws := zWsW y b nL (some ty) hh) B.pre
  have hlocks := B.notSynchronized
  have hC : zC (p, l, e, (headSpec (zWsW y b nL (some ty) hh) { frames := fr, cells := mc, slots := ms, locals := lo }).room, s, m, av.toArray, below, meth, c, va_A ws s.heap.size, MQ below (va_Qi post (zB G (va_A ws s.heap.size)) (va_A ws s.heap.size)) av.toArray s mc ms (va_A ws s.heap.size)) l G y b nL fr lo mc ms :=
    ⟨rfl, rfl, B.exec, B.bytes, hml, findClass_of_methodNamed B.named, fun w hw => hts w (List.mem_cons_of_mem _ hw), (name_of_methodNamed B.named B.method).1, fun q h => Or.inr h, hK⟩
  have hR : zRi (p, l, e, (headSpec (zWsW y b nL (some ty) hh) { frames := fr, cells := mc, slots := ms, locals := lo }).room, s, m, av.toArray, below, meth, c, va_A ws s.heap.size, MQ below (va_Qi post (zB G (va_A ws s.heap.size)) (va_A ws s.heap.size)) av.toArray s mc ms (va_A ws s.heap.size)) G nL b ty mc ms post := by
    intro w lv k n pc r hd hn hk hn2 hp H locs ls hP hD hS hl
    refine W.widen (k := mc) (n := ms) hk hn2 ?_
    exact W.zret (v := r) B.exec B.bytes B.returns hn (fun t ht hW => ⟨⟨r, w, rfl, hp, by rw [zB, ht]; exact ⟨hP, hD⟩⟩, hS.F ht⟩) hS.2.2 hd
  have hb := body _ hC htab hR s.heap [] ((lg_sl av ++ List.replicate (nL - (lg_sl av).length) Slot.unset).toArray) hP hD0.self va_S.rf (lv_entry av hav)
  rw [lg_entry_eq]
  exact hb
def zDeW (y : MethodName) (b : ByteArray) (nL : Nat) (ret : Option FieldType) (hh : List (Nat × Nat × Nat × Nat)) (na : Nat) : Prop := (y.cls ≠ "java/lang/invoke/MethodHandle" ∧ y.cls ≠ "java/lang/invoke/VarHandle" ∧ (parseMethodDescriptor y.desc).map (fun d => d.parameters.length) = some na) ∧ Cond.codeWith y b nL ret hh ∈ zT ∧ Cond.initialized y.cls ∈ zT
def zDvW (y : MethodName) (b : ByteArray) (nL : Nat) (ret : Option FieldType) (hh : List (Nat × Nat × Nat × Nat)) (na : Nat) : Prop := zDeW y b nL ret hh na ∧ Cond.instanceMethod y ∈ zT ∧ Cond.selects y.cls y y ∈ zT
def zDsW (y : MethodName) (b : ByteArray) (nL : Nat) (ret : Option FieldType) (hh : List (Nat × Nat × Nat × Nat)) (na : Nat) : Prop := zDeW y b nL ret hh na ∧ Cond.static y ∈ zT
theorem zDeW.good {y : MethodName} {b : ByteArray} {nL : Nat} {ret : Option FieldType} {hh : List (Nat × Nat × Nat × Nat)} {na : Nat} (h : zDeW y b nL ret hh na) : ∀ w ∈ zWsW y b nL ret hh, w ∈ zT := fun w hw => by
  rcases List.mem_cons.mp hw with rfl | hw
  · exact h.2.1
  · exact hw
theorem zDvW.good {y : MethodName} {b : ByteArray} {nL : Nat} {ret : Option FieldType} {hh : List (Nat × Nat × Nat × Nat)} {na : Nat} (h : zDvW y b nL ret hh na) {own : String} {idx : Nat} (hl : Cond.methodLink own idx y ∈ zT) : GoodIn zT (wsV own idx y.cls y (zWsW y b nL ret hh)) := zGood (fun w hw => by
  rcases List.mem_append.mp hw with hw | hw
  · simp only [List.mem_cons, List.not_mem_nil, or_false] at hw
    rcases hw with rfl | rfl | rfl | rfl
    · exact hl
    · exact h.2.1
    · exact h.2.2
    · exact h.1.2.2
  · exact zDeW.good h.1 w hw)
theorem zDsW.good {y : MethodName} {b : ByteArray} {nL : Nat} {ret : Option FieldType} {hh : List (Nat × Nat × Nat × Nat)} {na : Nat} (h : zDsW y b nL ret hh na) {own : String} {idx : Nat} (hl : Cond.methodLink own idx y ∈ zT) : GoodIn zT (va_wsS own idx y (zWsW y b nL ret hh)) := zGood (fun w hw => by
  rcases List.mem_append.mp hw with hw | hw
  · simp only [List.mem_cons, List.not_mem_nil, or_false] at hw
    rcases hw with rfl | rfl | rfl
    · exact hl
    · exact h.2
    · exact h.1.2.2
  · exact zDeW.good h.1 w hw)
section ZTHR
variable {X : zX} {l : Launch} {G : zG} {y : MethodName} {cc : ByteArray} {nL fr lo mc ms : Nat} {ws : va_W} {lv : List (Nat × Value)} {k n pc : Nat} {st stk : List Value}
variable {y' : MethodName} {b' : ByteArray} {nL' fr' lo' mc' ms' na idx : Nat} {wc wr : va_W} {ty : FieldType} {hh : List (Nat × Nat × Nat × Nat)}
theorem z_callVWi (hC : zC X l G y cc nL fr lo mc ms) {a : Nat} {As : List Value} {post : Int32 → va_W → Prop} (hM : zMiW l G y' b' nL' ty hh fr' lo' mc' ms' (.ref a :: As) wc post) (hDe : zDvW y' b' nL' (some ty) hh na) {ci N : Nat} {T : u_T} {tyf : Nat → FieldType} {fs : List Value} (hF : zF ci y'.cls T N tyf) (qr : Nat) (hrec : wc[qr]? = some (a, .inr (ci, fs))) (isC isR : List Nat) (hIC : isC.map (fun i => ws[i]?) = wc.map some) (hIR : isR.map (fun i => ws[i]?) = wr.map some) (hnd : va_nd (isC ++ isR) = true) (hd : decode cc pc = .ok (.invokevirtual idx, 3)) (hw : Cond.methodLink y.cls idx y' ∈ zT) (hst : stk = As.reverse ++ .ref a :: st) (hna : As.length = na) (hk : k + mc' ≤ mc) (hn : n + ms' ≤ ms) (hfr : fr' + 1 ≤ fr) (hlo : 8 + (nL' + 11) + lo' ≤ lo) (hm : (st.map fun v => v.category).sum ≤ 8) (kk : ∀ r w, post r w → zS X G nL (wr ++ w) lv (k + mc') (n + ms') (pc + 3) (.int r :: st)) : zS X G nL ws lv k n pc stk := by
  obtain ⟨p, l', e, R, s, m, args, below, meth, c, A, Q⟩ := X
  obtain ⟨rfl, rfl, hx, hb, hml, hown, hts, hnm, hA, hK⟩ := hC
  intro H locs ls hP hD hS hl
  obtain ⟨hn1, hn2, hn3⟩ := znd isC isR hnd
  have hPc := zsubP hP hIC
  have hDc := hD.sub isC hn1 hIC
  have hFc := va_free hD hS hA isC hIC
  refine va_calli (vx_runVW (As := As) (rest := st) ⟨hx, hb, hml, hown, hts⟩ (hM H.size) (vx_cwVW na hts (zDvW.good hDe hw) rfl rfl rfl ⟨rfl, hDe.1.1.1, hDe.1.1.2.1, hDe.1.1.2.2⟩ ⟨hfr, hlo⟩) ⟨zPc.blind, va_recv (hK.1.sub [] rfl) hPc hF.1 hrec, fun U hU hW => zPc.pre (ws := ws) hK hS hFc hPc hDc hU hW⟩ rfl hna hl.1 hst (lv_room hm) hd ⟨hk, hn⟩) hS (fun q _ h => hFc q h) hFc (fun r w t H1 locs1 ht hvm hp hB hz1 hk1 hS1 => ?_)
  obtain ⟨hP1, hD1⟩ := hB
  rw [ht] at hP1
  obtain ⟨hP', hD'⟩ := va_join hP hD isC isR hIC hIR hn2 hn3 hk1 hFc hP1 hD1
  exact kk r w hp H1 locs1 ls hP' hD' hS1 hl
theorem z_callSWi (hC : zC X l G y cc nL fr lo mc ms) {As : List Value} {post : Int32 → va_W → Prop} (hM : zMiW l G y' b' nL' ty hh fr' lo' mc' ms' As wc post) (hDe : zDsW y' b' nL' (some ty) hh na) (isC isR : List Nat) (hIC : isC.map (fun i => ws[i]?) = wc.map some) (hIR : isR.map (fun i => ws[i]?) = wr.map some) (hnd : va_nd (isC ++ isR) = true) (hd : decode cc pc = .ok (.invokestatic idx, 3)) (hw : Cond.methodLink y.cls idx y' ∈ zT) (hst : stk = As.reverse ++ st) (hna : As.length = na) (hk : k + mc' ≤ mc) (hn : n + ms' ≤ ms) (hfr : fr' + 1 ≤ fr) (hlo : 8 + (nL' + 11) + lo' ≤ lo) (hm : (st.map fun v => v.category).sum ≤ 8) (kk : ∀ r w, post r w → zS X G nL (wr ++ w) lv (k + mc') (n + ms') (pc + 3) (.int r :: st)) : zS X G nL ws lv k n pc stk := by
  obtain ⟨p, l', e, R, s, m, args, below, meth, c, A, Q⟩ := X
  obtain ⟨rfl, rfl, hx, hb, hml, hown, hts, hnm, hA, hK⟩ := hC
  intro H locs ls hP hD hS hl
  obtain ⟨hn1, hn2, hn3⟩ := znd isC isR hnd
  have hPc := zsubP hP hIC
  have hDc := hD.sub isC hn1 hIC
  have hFc := va_free hD hS hA isC hIC
  refine va_calli (vx_runSW (As := As) (rest := st) ⟨hx, hb, hml, hown, hts⟩ (hM H.size) (vx_cwSW na hts (zDsW.good hDe hw) rfl rfl rfl ⟨hDe.1.1.1, hDe.1.1.2.1, hDe.1.1.2.2⟩ ⟨hfr, hlo⟩) ⟨zPc.blind, fun U hU hW => zPc.pre (ws := ws) hK hS hFc hPc hDc hU hW⟩ rfl hna hl.1 hst (lv_room hm) hd ⟨hk, hn⟩) hS (fun q _ h => hFc q h) hFc (fun r w t H1 locs1 ht hvm hp hB hz1 hk1 hS1 => ?_)
  obtain ⟨hP1, hD1⟩ := hB
  rw [ht] at hP1
  obtain ⟨hP', hD'⟩ := va_join hP hD isC isR hIC hIR hn2 hn3 hk1 hFc hP1 hD1
  exact kk r w hp H1 locs1 ls hP' hD' hS1 hl
/-- methods that always throw E -/
def zXC (E : String) (A : Nat → Prop) : String → State → State → Prop := vx_X (fun _ : Unit => True) (fun E' _ _ => E' = E) A
def zMxi (l : Launch) (G : zG) (y : MethodName) (b : ByteArray) (nL : Nat) (ty : FieldType) (E : String) (fr lo mc ms : Nat) (av : List Value) (ws : va_W) : Prop :=
  ∀ sz : Nat, vx_Met l y (zWs y b nL (some ty)) { frames := fr, cells := mc, slots := ms, locals := lo } (zPc G sz av ws) (va_Qi (fun (_ : Int32) (_ : Unit) => False) (fun _ _ => True) (va_A ws sz)) (zXC E (va_A ws sz)) mc ms (va_A ws sz)
theorem zMxi.intro {l : Launch} {G : zG} {y : MethodName} {b : ByteArray} {nL : Nat} {ty : FieldType} {E : String} {fr lo mc ms : Nat} {av : List Value} {ws : va_W} (hst : l.stackTraces = false) (hy : plainName y.cls = true) (hav : (lg_sl av).length ≤ nL)
    (body : ∀ X : zX, zC X l G y b nL fr lo mc ms → (∀ (ws1 : va_W) (lv : List (Nat × Value)) (k n pc : Nat) (st : List Value) (ik ic : Nat) (names : List String), decode b pc = .ok (.new ik, 3) → decode b (pc + 3) = .ok (.dup, 1) → decode b (pc + 4) = .ok (.invokespecial ic, 3) → decode b (pc + 7) = .ok (.athrow, 1) → Bundle.fit E = true → (∀ n ∈ names, Bundle.fit n = true) → Cond.classLink y.cls ik E ∈ zT → Cond.initialized E ∈ zT → (∀ w ∈ (vx_at0 y.cls ic E names).filter goodWord, w ∈ zT) → (∀ w ∈ (vx_at0 y.cls ic E names).filter (fun w => !goodWord w), w ∈ zNest) → (∀ w ∈ vx_at0 y.cls ic E names, vx_ot w = true) → names.length + 3 < fr → (st.map fun v => v.category).sum + (13 * (names.length + 1) + 42) ≤ lo → k + 1 ≤ mc → n + 6 ≤ ms → zS X G nL ws1 lv k n pc st) → zS X G nL ws (lv_args 0 av) 0 0 0 []) : zMxi l G y b nL ty E fr lo mc ms av ws := by
  intro sz
  refine vx_ofW (cc := b) (maxL := nL) (ret := (some ty)) hy rfl ?_
  intro p e s m args below meth c s₁ B hml htab hv
  obtain ⟨rfl, hsz, hP, hK, hD0⟩ := hv
  subst hsz
  have hts := atoms_spec (ws := zWs y b nL (some ty)) B.pre
  have hlocks := B.notSynchronized
  have hC : zC (p, l, e, (headSpec (zWs y b nL (some ty)) { frames := fr, cells := mc, slots := ms, locals := lo }).room, s, m, av.toArray, below, meth, c, va_A ws s.heap.size, vx_MQ below (va_Qi (fun (_ : Int32) (_ : Unit) => False) (fun _ _ => True) (va_A ws s.heap.size)) (zXC E (va_A ws s.heap.size)) av.toArray s mc ms (va_A ws s.heap.size)) l G y b nL fr lo mc ms :=
    ⟨rfl, rfl, B.exec, B.bytes, hml, findClass_of_methodNamed B.named, fun w hw => hts w (List.mem_cons_of_mem _ hw), (name_of_methodNamed B.named B.method).1, fun q h => Or.inr h, hK⟩
  have hb := body _ hC (fun ws1 lv k n pc st ik ic names d0 d3 d4 d7 hf1 hf2 hk1 hk2 hg1 hg2 hg3 hfr hlo hk hn H locs ls hP hD hS hl => ?_) s.heap [] ((lg_sl av ++ List.replicate (nL - (lg_sl av).length) Slot.unset).toArray) hP hD0.self va_S.rf (lv_entry av hav)
  · rw [lg_entry_eq]
    exact hb
  · have ht : ∀ w ∈ zT, w.before av.toArray s = true := fun w hw => hts w (List.mem_cons_of_mem _ hw)
    have hat : ∀ w ∈ vx_at0 y.cls ic E names, w.before av.toArray s = true := vx_hat (B := zNest) (fun w hw => ht w (hg1 w hw)) hg2 (fun w hw => va_Nw.use (zNest_tables hw) (hK.2.2.2.2.2.2 w hw))
    refine vx_throw0 (own := y.cls) (cls := E) (names := names) (ik := ik) (ic := ic) (A := va_A ws s.heap.size) B.exec B.bytes hst (findClass_of_methodNamed B.named) hf1 hf2 (ht _ hk1) (ht _ hk2) hat ?_ hK.2.1.2.2.2.2.1 hK.2.1.2.2.2.2.2.1 hS (hl.1.trans hml.symm) d0 d3 d4 d7 (fun x hx => (htab x hx).elim) hfr hlo hk hn hlocks ?_ hS.2.2 hk hn
    · intro w hw
      rcases List.mem_cons.mp hw with rfl | hw
      · have := zT_good hk1
        unfold vx_ot
        rw [this, Bool.or_true]
      · rcases List.mem_cons.mp hw with rfl | hw
        · have := zT_good hk2
          unfold vx_ot
          rw [this, Bool.or_true]
        · exact hg3 w hw
    · intro t hvm h1 h2
      exact ⟨(), trivial, rfl, Nat.le_trans hS.1 h1, fun q hq hA => (h2 q (Nat.lt_of_lt_of_le hq hS.1)).trans (hS.2.1 q hq hA)⟩
def zMxv (l : Launch) (G : zG) (y : MethodName) (b : ByteArray) (nL : Nat) (E : String) (fr lo mc ms : Nat) (av : List Value) (ws : va_W) : Prop :=
  ∀ sz : Nat, vx_Met l y (zWs y b nL none) { frames := fr, cells := mc, slots := ms, locals := lo } (zPc G sz av ws) (va_Qv (fun (_ : Unit) => False) (fun _ _ => True) (va_A ws sz)) (zXC E (va_A ws sz)) mc ms (va_A ws sz)
theorem zMxv.intro {l : Launch} {G : zG} {y : MethodName} {b : ByteArray} {nL : Nat} {E : String} {fr lo mc ms : Nat} {av : List Value} {ws : va_W} (hst : l.stackTraces = false) (hy : plainName y.cls = true) (hav : (lg_sl av).length ≤ nL)
    (body : ∀ X : zX, zC X l G y b nL fr lo mc ms → (∀ (ws1 : va_W) (lv : List (Nat × Value)) (k n pc : Nat) (st : List Value) (ik ic : Nat) (names : List String), decode b pc = .ok (.new ik, 3) → decode b (pc + 3) = .ok (.dup, 1) → decode b (pc + 4) = .ok (.invokespecial ic, 3) → decode b (pc + 7) = .ok (.athrow, 1) → Bundle.fit E = true → (∀ n ∈ names, Bundle.fit n = true) → Cond.classLink y.cls ik E ∈ zT → Cond.initialized E ∈ zT → (∀ w ∈ (vx_at0 y.cls ic E names).filter goodWord, w ∈ zT) → (∀ w ∈ (vx_at0 y.cls ic E names).filter (fun w => !goodWord w), w ∈ zNest) → (∀ w ∈ vx_at0 y.cls ic E names, vx_ot w = true) → names.length + 3 < fr → (st.map fun v => v.category).sum + (13 * (names.length + 1) + 42) ≤ lo → k + 1 ≤ mc → n + 6 ≤ ms → zS X G nL ws1 lv k n pc st) → zS X G nL ws (lv_args 0 av) 0 0 0 []) : zMxv l G y b nL E fr lo mc ms av ws := by
  intro sz
  refine vx_ofW (cc := b) (maxL := nL) (ret := none) hy rfl ?_
  intro p e s m args below meth c s₁ B hml htab hv
  obtain ⟨rfl, hsz, hP, hK, hD0⟩ := hv
  subst hsz
  have hts := atoms_spec (ws := zWs y b nL none) B.pre
  have hlocks := B.notSynchronized
  have hC : zC (p, l, e, (headSpec (zWs y b nL none) { frames := fr, cells := mc, slots := ms, locals := lo }).room, s, m, av.toArray, below, meth, c, va_A ws s.heap.size, vx_MQ below (va_Qv (fun (_ : Unit) => False) (fun _ _ => True) (va_A ws s.heap.size)) (zXC E (va_A ws s.heap.size)) av.toArray s mc ms (va_A ws s.heap.size)) l G y b nL fr lo mc ms :=
    ⟨rfl, rfl, B.exec, B.bytes, hml, findClass_of_methodNamed B.named, fun w hw => hts w (List.mem_cons_of_mem _ hw), (name_of_methodNamed B.named B.method).1, fun q h => Or.inr h, hK⟩
  have hb := body _ hC (fun ws1 lv k n pc st ik ic names d0 d3 d4 d7 hf1 hf2 hk1 hk2 hg1 hg2 hg3 hfr hlo hk hn H locs ls hP hD hS hl => ?_) s.heap [] ((lg_sl av ++ List.replicate (nL - (lg_sl av).length) Slot.unset).toArray) hP hD0.self va_S.rf (lv_entry av hav)
  · rw [lg_entry_eq]
    exact hb
  · have ht : ∀ w ∈ zT, w.before av.toArray s = true := fun w hw => hts w (List.mem_cons_of_mem _ hw)
    have hat : ∀ w ∈ vx_at0 y.cls ic E names, w.before av.toArray s = true := vx_hat (B := zNest) (fun w hw => ht w (hg1 w hw)) hg2 (fun w hw => va_Nw.use (zNest_tables hw) (hK.2.2.2.2.2.2 w hw))
    refine vx_throw0 (own := y.cls) (cls := E) (names := names) (ik := ik) (ic := ic) (A := va_A ws s.heap.size) B.exec B.bytes hst (findClass_of_methodNamed B.named) hf1 hf2 (ht _ hk1) (ht _ hk2) hat ?_ hK.2.1.2.2.2.2.1 hK.2.1.2.2.2.2.2.1 hS (hl.1.trans hml.symm) d0 d3 d4 d7 (fun x hx => (htab x hx).elim) hfr hlo hk hn hlocks ?_ hS.2.2 hk hn
    · intro w hw
      rcases List.mem_cons.mp hw with rfl | hw
      · have := zT_good hk1
        unfold vx_ot
        rw [this, Bool.or_true]
      · rcases List.mem_cons.mp hw with rfl | hw
        · have := zT_good hk2
          unfold vx_ot
          rw [this, Bool.or_true]
        · exact hg3 w hw
    · intro t hvm h1 h2
      exact ⟨(), trivial, rfl, Nat.le_trans hS.1 h1, fun q hq hA => (h2 q (Nat.lt_of_lt_of_le hq hS.1)).trans (hS.2.1 q hq hA)⟩
/-- a call of such a method, caught here by the row x of the table -/
theorem z_callXi (hC : zC X l G y cc nL fr lo mc ms) (hTab : zTab X hh) {a : Nat} {As : List Value} {E nmE : String} (hM : zMxi l G y' b' nL' ty E fr' lo' mc' ms' (.ref a :: As) wc) (hDe : zDv y' b' nL' (some ty) na) {ci N : Nat} {T : u_T} {tyf : Nat → FieldType} {fs : List Value} (hF : zF ci y'.cls T N tyf) (qr : Nat) (hrec : wc[qr]? = some (a, .inr (ci, fs))) (isC isR : List Nat) (hIC : isC.map (fun i => ws[i]?) = wc.map some) (hIR : isR.map (fun i => ws[i]?) = wr.map some) (hnd : va_nd (isC ++ isR) = true) (hd : decode cc pc = .ok (.invokevirtual idx, 3)) (hw : Cond.methodLink y.cls idx y' ∈ zT) (hst : stk = As.reverse ++ .ref a :: st) (hna : As.length = na) (hk : k + mc' ≤ mc) (hn : n + ms' ≤ ms) (hfr : fr' + 1 ≤ fr) (hlo : 8 + (nL' + 11) + lo' ≤ lo) (hm : (st.map fun v => v.category).sum ≤ 8)
    (pre : List ExceptionTableEntry) (x : ExceptionTableEntry) (suf : List ExceptionTableEntry) (hsplit : tableOf hh = pre ++ x :: suf) (hpass : ∀ z ∈ pre, covers z pc = false ∨ (z.catchType ≠ 0 ∧ ∃ nm : String, Cond.classLink y.cls z.catchType nm ∈ zT ∧ ∀ U, zNt G.2.2 U → va_Nc E nm U)) (hcov : covers x pc = true) (h0 : x.catchType ≠ 0) (hlink : Cond.classLink y.cls x.catchType nmE ∈ zT) (hcast : Cond.castable E nmE ∈ zNest)
    (kk : ∀ q : Nat, zS X G nL wr lv (k + mc') (n + ms') x.handlerPc [.ref q]) : zS X G nL ws lv k n pc stk := by
  obtain ⟨p, l', e, R, s, m, args, below, meth, c, A, Q⟩ := X
  have hTab : c.exceptionTable.toList = tableOf hh := hTab
  obtain ⟨rfl, rfl, hx, hb, hml, hown, hts, hnm, hA, hK⟩ := hC
  intro H locs ls hP hD hS hl
  obtain ⟨hn1, hn2, hn3⟩ := znd isC isR hnd
  have hPc := zsubP hP hIC
  have hDc := hD.sub isC hn1 hIC
  have hFc := va_free hD hS hA isC hIC
  refine vx_calli (vx_runV (As := As) (rest := st) ⟨hx, hb, hml, hown, hts⟩ (hM H.size) (cwV na hts (zDv.good hDe hw) rfl rfl rfl ⟨rfl, hDe.1.1.1, hDe.1.1.2.1, hDe.1.1.2.2⟩ ⟨hfr, hlo⟩) ⟨zPc.blind, va_recv (hK.1.sub [] rfl) hPc hF.1 hrec, fun U hU hW => zPc.pre (ws := ws) hK hS hFc hPc hDc hU hW⟩ rfl hna hl.1 hst (lv_room hm) hd ⟨hk, hn⟩) hS (fun q _ h => hFc q h) hFc (fun q _ h => hFc q h)
    (fun E9 ce q9 u t H1 locs1 ht hvm hp hB hz1 hk1 hS1 hce hcv hcl => ?_) (fun r u t H1 locs1 ht hvm hp => hp.elim)
  have hE : E9 = E := hB
  subst hE
  refine vx_catch hown pre x suf (hTab.trans hsplit) (fun z hz => ?_) hcov h0 (hts _ hlink) (va_Nw.use (zNest_tables hcast) (hK.2.2.2.2.2.2 _ hcast)) hce hcv hcl ?_
  · rcases hpass z hz with h | ⟨h1, nm, h2, h3⟩
    · exact Or.inl h
    · exact Or.inr ⟨h1, nm, hts _ h2, h3 s hK.2.2⟩
  · have hPr := zsubP hP hIR
    refine kk q9 H1 locs1 ls (hPr.kept (fun i q hq => hk1 q.1 ((hPr i q hq).lt) (fun h => ?_))) (hD.sub isR hn2 hIR) hS1 hl
    -- a cell of the rest is none of the callee's
    have at' : ∀ {is : List Nat} {w : va_W}, is.map (fun i => ws[i]?) = w.map some → ∀ (k : Nat) (q : Nat × va_E), w[k]? = some q → ∃ i, is[k]? = some i ∧ ws[i]? = some q := by
      intro is w hs k q hq
      have h1 : (is.map (fun i => ws[i]?))[k]? = some (some q) := by rw [hs, List.getElem?_map, hq]; rfl
      rw [List.getElem?_map] at h1
      cases hi : is[k]? with
      | none => rw [hi] at h1; cases h1
      | some i => rw [hi] at h1; exact ⟨i, rfl, Option.some.inj h1⟩
    obtain ⟨i1, g1, g2⟩ := at' hIR i q hq
    rcases h with ⟨k2, e2, h⟩ | h
    · obtain ⟨j, h3, h4⟩ := at' hIC k2 (q.1, e2) h
      have hij := hD.1 i1 j q (q.1, e2) g2 h4 rfl
      subst hij
      exact hn3 i1 (List.mem_of_getElem? g1) (List.mem_of_getElem? h3)
    · exact absurd ((hP i1 q g2).lt) (Nat.not_lt.mpr h)
/-- a call of such a method, caught here by the row x of the table -/
theorem z_callXv (hC : zC X l G y cc nL fr lo mc ms) (hTab : zTab X hh) {a : Nat} {As : List Value} {E nmE : String} (hM : zMxv l G y' b' nL' E fr' lo' mc' ms' (.ref a :: As) wc) (hDe : zDv y' b' nL' none na) {ci N : Nat} {T : u_T} {tyf : Nat → FieldType} {fs : List Value} (hF : zF ci y'.cls T N tyf) (qr : Nat) (hrec : wc[qr]? = some (a, .inr (ci, fs))) (isC isR : List Nat) (hIC : isC.map (fun i => ws[i]?) = wc.map some) (hIR : isR.map (fun i => ws[i]?) = wr.map some) (hnd : va_nd (isC ++ isR) = true) (hd : decode cc pc = .ok (.invokevirtual idx, 3)) (hw : Cond.methodLink y.cls idx y' ∈ zT) (hst : stk = As.reverse ++ .ref a :: st) (hna : As.length = na) (hk : k + mc' ≤ mc) (hn : n + ms' ≤ ms) (hfr : fr' + 1 ≤ fr) (hlo : 8 + (nL' + 11) + lo' ≤ lo) (hm : (st.map fun v => v.category).sum ≤ 8)
    (pre : List ExceptionTableEntry) (x : ExceptionTableEntry) (suf : List ExceptionTableEntry) (hsplit : tableOf hh = pre ++ x :: suf) (hpass : ∀ z ∈ pre, covers z pc = false ∨ (z.catchType ≠ 0 ∧ ∃ nm : String, Cond.classLink y.cls z.catchType nm ∈ zT ∧ ∀ U, zNt G.2.2 U → va_Nc E nm U)) (hcov : covers x pc = true) (h0 : x.catchType ≠ 0) (hlink : Cond.classLink y.cls x.catchType nmE ∈ zT) (hcast : Cond.castable E nmE ∈ zNest)
    (kk : ∀ q : Nat, zS X G nL wr lv (k + mc') (n + ms') x.handlerPc [.ref q]) : zS X G nL ws lv k n pc stk := by
  obtain ⟨p, l', e, R, s, m, args, below, meth, c, A, Q⟩ := X
  have hTab : c.exceptionTable.toList = tableOf hh := hTab
  obtain ⟨rfl, rfl, hx, hb, hml, hown, hts, hnm, hA, hK⟩ := hC
  intro H locs ls hP hD hS hl
  obtain ⟨hn1, hn2, hn3⟩ := znd isC isR hnd
  have hPc := zsubP hP hIC
  have hDc := hD.sub isC hn1 hIC
  have hFc := va_free hD hS hA isC hIC
  refine vx_callv (vx_runV (As := As) (rest := st) ⟨hx, hb, hml, hown, hts⟩ (hM H.size) (cwV na hts (zDv.good hDe hw) rfl rfl rfl ⟨rfl, hDe.1.1.1, hDe.1.1.2.1, hDe.1.1.2.2⟩ ⟨hfr, hlo⟩) ⟨zPc.blind, va_recv (hK.1.sub [] rfl) hPc hF.1 hrec, fun U hU hW => zPc.pre (ws := ws) hK hS hFc hPc hDc hU hW⟩ rfl hna hl.1 hst (lv_room hm) hd ⟨hk, hn⟩) hS (fun q _ h => hFc q h) hFc (fun q _ h => hFc q h)
    (fun E9 ce q9 u t H1 locs1 ht hvm hp hB hz1 hk1 hS1 hce hcv hcl => ?_) (fun u t H1 locs1 ht hvm hp => hp.elim)
  have hE : E9 = E := hB
  subst hE
  refine vx_catch hown pre x suf (hTab.trans hsplit) (fun z hz => ?_) hcov h0 (hts _ hlink) (va_Nw.use (zNest_tables hcast) (hK.2.2.2.2.2.2 _ hcast)) hce hcv hcl ?_
  · rcases hpass z hz with h | ⟨h1, nm, h2, h3⟩
    · exact Or.inl h
    · exact Or.inr ⟨h1, nm, hts _ h2, h3 s hK.2.2⟩
  · have hPr := zsubP hP hIR
    refine kk q9 H1 locs1 ls (hPr.kept (fun i q hq => hk1 q.1 ((hPr i q hq).lt) (fun h => ?_))) (hD.sub isR hn2 hIR) hS1 hl
    -- a cell of the rest is none of the callee's
    have at' : ∀ {is : List Nat} {w : va_W}, is.map (fun i => ws[i]?) = w.map some → ∀ (k : Nat) (q : Nat × va_E), w[k]? = some q → ∃ i, is[k]? = some i ∧ ws[i]? = some q := by
      intro is w hs k q hq
      have h1 : (is.map (fun i => ws[i]?))[k]? = some (some q) := by rw [hs, List.getElem?_map, hq]; rfl
      rw [List.getElem?_map] at h1
      cases hi : is[k]? with
      | none => rw [hi] at h1; cases h1
      | some i => rw [hi] at h1; exact ⟨i, rfl, Option.some.inj h1⟩
    obtain ⟨i1, g1, g2⟩ := at' hIR i q hq
    rcases h with ⟨k2, e2, h⟩ | h
    · obtain ⟨j, h3, h4⟩ := at' hIC k2 (q.1, e2) h
      have hij := hD.1 i1 j q (q.1, e2) g2 h4 rfl
      subst hij
      exact hn3 i1 (List.mem_of_getElem? g1) (List.mem_of_getElem? h3)
    · exact absurd ((hP i1 q g2).lt) (Nat.not_lt.mpr h)
end ZTHR
