/-! Typed contracts: the method answers a value of type P, or throws E; the typing stands. -/
/-- E lies at q, thrown over the frame at pc -/
def zSx : zX → zG → Nat → String → va_W → List (Nat × Value) → Nat → Nat → Nat → List Value → Nat → Prop := fun (p, l, e, R, s, m, args, below, meth, c, A, Q) G nL E ws lv k n pc st q =>
  ∀ (H : Heap) (locs : List Loc) (ls : Array Slot) (ce : Cell), va_P G.1 zcl ws H → va_D A ws → va_S A s.heap H locs → lv_has ls nL lv → H[q]? = some ce → ce.vm = .none → s.vm.findClass E = some ce.cls → vx_W p l e R s m args below meth c H locs k n Q (F0 m pc ls st) q
def tXC (T : tT) (G : zG) (ES : List String) (A : Nat → Prop) : String → State → State → Prop := vx_X (fun w : va_W => tW T w) (fun E' w t => E' ∈ ES ∧ zB G A w t) A
/-- the answer, the typing, what is new -/
abbrev tPi : Type := Int32 → Nat → Nat → va_W → Prop
abbrev tPv : Type := Nat → Nat → va_W → Prop
def tQi (T : tT) (G : zG) (P : tPi) (A : Nat → Prop) : Array Value → State → Outcome → State → Prop := fun a st oc t => ∃ c n, va_Qi (fun (r : Int32) (w : va_W) => tW T w ∧ P r c n w) (zB G A) A a st oc t ∧ tSzb c n st t
def tQv (T : tT) (G : zG) (P : tPv) (A : Nat → Prop) : Array Value → State → Outcome → State → Prop := fun a st oc t => ∃ c n, va_Qv (fun (w : va_W) => tW T w ∧ P c n w) (zB G A) A a st oc t ∧ tSzb c n st t
def tMi (l : Launch) (G : zG) (T : tT) (y : MethodName) (b : ByteArray) (nL : Nat) (ty : FieldType) (ES : List String) (fr lo mc ms : Nat) (av : List Value) (Pre : va_W → Prop) (P : va_W → tPi) : Prop :=
  ∀ ws, tW T ws → Pre ws → ∀ sz : Nat, vx_Met l y (zWs y b nL (some ty)) { frames := fr, cells := mc, slots := ms, locals := lo } (zPc G sz av ws) (tQi T G (P ws) (va_A ws sz)) (tXC T G ES (va_A ws sz)) mc ms (va_A ws sz)
def tMv (l : Launch) (G : zG) (T : tT) (y : MethodName) (b : ByteArray) (nL : Nat) (ES : List String) (fr lo mc ms : Nat) (av : List Value) (Pre : va_W → Prop) (P : va_W → tPv) : Prop :=
  ∀ ws, tW T ws → Pre ws → ∀ sz : Nat, vx_Met l y (zWs y b nL none) { frames := fr, cells := mc, slots := ms, locals := lo } (zPc G sz av ws) (tQv T G (P ws) (va_A ws sz)) (tXC T G ES (va_A ws sz)) mc ms (va_A ws sz)
/-- not caught here -/
def tOut : zX → zG → Nat → List String → Nat → Nat → tT → Prop := fun X G nL ES mc ms T =>
  ∀ (E : String) (ws : va_W) (lv : List (Nat × Value)) (k n pc : Nat) (st : List Value) (q : Nat), E ∈ ES → k ≤ mc → n ≤ ms → tW T ws → zSx X G nL E ws lv k n pc st q
/-- 'throw new E()' ends the method -/
def tThr : zX → zG → MethodName → Nat → ByteArray → List String → Nat → Nat → Nat → Nat → tT → Prop := fun X G y nL b ES fr lo mc ms T =>
  ∀ (E : String) (ws1 : va_W) (lv : List (Nat × Value)) (k n pc : Nat) (st : List Value) (ik ic : Nat) (names : List String), E ∈ ES → tW T ws1 → decode b pc = .ok (.new ik, 3) → decode b (pc + 3) = .ok (.dup, 1) → decode b (pc + 4) = .ok (.invokespecial ic, 3) → decode b (pc + 7) = .ok (.athrow, 1) → Bundle.fit E = true → (∀ n ∈ names, Bundle.fit n = true) → Cond.classLink y.cls ik E ∈ zT → Cond.initialized E ∈ zT → (∀ w ∈ (vx_at0 y.cls ic E names).filter goodWord, w ∈ zT) → (∀ w ∈ (vx_at0 y.cls ic E names).filter (fun w => !goodWord w), w ∈ zNest) → (∀ w ∈ vx_at0 y.cls ic E names, vx_ot w = true) → names.length + 3 < fr → (st.map fun v => v.category).sum + (13 * (names.length + 1) + 42) ≤ lo → k + 1 ≤ mc → n + 6 ≤ ms → zS X G nL ws1 lv k n pc st
/-- a return: what is to be shown of the answer, of what is new, of the world -/
def uRi : zX → zG → Nat → ByteArray → FieldType → Nat → Nat → tPi → Prop := fun X G nL cc ty mc ms post =>
  ∀ (ws : va_W) (lv : List (Nat × Value)) (k n pc : Nat) (r : Int32), decode cc pc = .ok (.ireturn, 1) → narrow ty (.int r) = .int r → k ≤ mc → n ≤ ms → post r k n ws → zS X G nL ws lv k n pc [.int r]
def uRv : zX → zG → Nat → ByteArray → Nat → Nat → tPv → Prop := fun X G nL cc mc ms post =>
  ∀ (ws : va_W) (lv : List (Nat × Value)) (k n pc : Nat), decode cc pc = .ok (.return_, 1) → k ≤ mc → n ≤ ms → post k n ws → zS X G nL ws lv k n pc []
theorem tMi.intro {l : Launch} {G : zG} {T : tT} {y : MethodName} {b : ByteArray} {nL : Nat} {ty : FieldType} {ES : List String} {fr lo mc ms : Nat} {av : List Value} {Pre : va_W → Prop} {P : va_W → tPi} (hst : l.stackTraces = false) (hy : plainName y.cls = true) (hav : (lg_sl av).length ≤ nL)
    (body : ∀ ws, tW T ws → Pre ws → ∀ X : zX, zC X l G y b nL fr lo mc ms → uRi X G nL b ty mc ms (fun r k n w => tW T w ∧ P ws r k n w) → tOut X G nL ES mc ms T → tThr X G y nL b ES fr lo mc ms T → zS X G nL ws (lv_args 0 av) 0 0 0 []) : tMi l G T y b nL ty ES fr lo mc ms av Pre P := by
  intro ws hw hpre sz
  refine vx_ofW (cc := b) (maxL := nL) (ret := some ty) hy rfl ?_
  intro p e s m args below meth c s₁ B hml htab hv
  obtain ⟨rfl, hsz, hP, hK, hD0⟩ := hv
  subst hsz
  have hts := atoms_spec (ws := zWs y b nL (some ty)) B.pre
  have hlocks := B.notSynchronized
  obtain ⟨Q, hQ⟩ : ∃ Q, Q = vx_MQ below (tQi T G (P ws) (va_A ws s.heap.size)) (tXC T G ES (va_A ws s.heap.size)) av.toArray s mc ms (va_A ws s.heap.size) := ⟨_, rfl⟩
  have hC : zC (p, l, e, (headSpec (zWs y b nL (some ty)) { frames := fr, cells := mc, slots := ms, locals := lo }).room, s, m, av.toArray, below, meth, c, va_A ws s.heap.size, Q) l G y b nL fr lo mc ms :=
    ⟨rfl, rfl, B.exec, B.bytes, hml, findClass_of_methodNamed B.named, fun w hw => hts w (List.mem_cons_of_mem _ hw), (name_of_methodNamed B.named B.method).1, fun q h => Or.inr h, hK⟩
  have hR : uRi (p, l, e, (headSpec (zWs y b nL (some ty)) { frames := fr, cells := mc, slots := ms, locals := lo }).room, s, m, av.toArray, below, meth, c, va_A ws s.heap.size, Q) G nL b ty mc ms (fun r k n w => tW T w ∧ P ws r k n w) := by
    intro w lv k n pc r hd hn hk hn2 hp H locs ls hP hD hS hl
    subst hQ
    refine vx_ret (fun T0 hT0 X0 => ?_)
    exact (W.zret (v := r) B.exec B.bytes B.returns hn (fun t ht hW => ⟨k, n, ⟨⟨r, w, rfl, hp, by rw [zB, ht]; exact ⟨hP, hD⟩⟩, hS.F ht⟩, by have := t_none X0; unfold tSzb at this ⊢; rw [ht, ← hT0]; exact this⟩) hS.2.2 hd) T0 hT0 (stand_widen X0 hk hn2)
  have hO : tOut (p, l, e, (headSpec (zWs y b nL (some ty)) { frames := fr, cells := mc, slots := ms, locals := lo }).room, s, m, av.toArray, below, meth, c, va_A ws s.heap.size, Q) G nL ES mc ms T := by
    intro E w lv k n pc st q hE hk hn hp H locs ls ce hP hD hS hl h1 h2 h3
    subst hQ
    exact vx_out (fun x hx => (htab x hx).elim) hlocks h1 h2 h3 (fun t ht hvm => ⟨w, hp, ⟨hE, by rw [zB, ht]; exact ⟨hP, hD⟩⟩, hS.F ht⟩) hS.2.2 hk hn
  have hX : tThr (p, l, e, (headSpec (zWs y b nL (some ty)) { frames := fr, cells := mc, slots := ms, locals := lo }).room, s, m, av.toArray, below, meth, c, va_A ws s.heap.size, Q) G y nL b ES fr lo mc ms T := by
    intro E ws1 lv k n pc st ik ic names hE hw1 d0 d3 d4 d7 hf1 hf2 hk1 hk2 hg1 hg2 hg3 hfr hlo hk hn H locs ls hP hD hS hl
    subst hQ
    have ht : ∀ w ∈ zT, w.before av.toArray s = true := fun w hw => hts w (List.mem_cons_of_mem _ hw)
    have hat : ∀ w ∈ vx_at0 y.cls ic E names, w.before av.toArray s = true := vx_hat (B := zNest) (fun w hw => ht w (hg1 w hw)) hg2 (fun w hw => va_Nw.use (zNest_tables hw) (hK.2.2.2.2.2.2 w hw))
    refine vx_throw0 (own := y.cls) (cls := E) (names := names) (ik := ik) (ic := ic) (A := va_A ws s.heap.size) B.exec B.bytes hst (findClass_of_methodNamed B.named) hf1 hf2 (ht _ hk1) (ht _ hk2) hat ?_ hK.2.1.2.2.2.2.1 hK.2.1.2.2.2.2.2.1 hS (hl.1.trans hml.symm) d0 d3 d4 d7 (fun x hx => (htab x hx).elim) hfr hlo hk hn hlocks ?_ hS.2.2 hk hn
    · intro w hw
      rcases List.mem_cons.mp hw with rfl | hw
      · have := zT_good hk1
        unfold vx_ot
        rw [this, Bool.or_true]
      · rcases List.mem_cons.mp hw with rfl | hw
        · have := zT_good hk2
          unfold vx_ot
          rw [this, Bool.or_true]
        · exact hg3 w hw
    · intro t hvm h1 h2
      exact ⟨ws1, hw1, ⟨hE, hP.kept (fun i q hq => h2 q.1 ((hP i q hq).lt)), hD⟩, Nat.le_trans hS.1 h1, fun q hq hA => (h2 q (Nat.lt_of_lt_of_le hq hS.1)).trans (hS.2.1 q hq hA)⟩
  have hb := body ws hw hpre _ hC hR hO hX s.heap [] ((lg_sl av ++ List.replicate (nL - (lg_sl av).length) Slot.unset).toArray) hP hD0.self va_S.rf (lv_entry av hav)
  rw [lg_entry_eq]
  subst hQ
  exact hb
theorem tMv.intro {l : Launch} {G : zG} {T : tT} {y : MethodName} {b : ByteArray} {nL : Nat} {ES : List String} {fr lo mc ms : Nat} {av : List Value} {Pre : va_W → Prop} {P : va_W → tPv} (hst : l.stackTraces = false) (hy : plainName y.cls = true) (hav : (lg_sl av).length ≤ nL)
    (body : ∀ ws, tW T ws → Pre ws → ∀ X : zX, zC X l G y b nL fr lo mc ms → uRv X G nL b mc ms (fun k n w => tW T w ∧ P ws k n w) → tOut X G nL ES mc ms T → tThr X G y nL b ES fr lo mc ms T → zS X G nL ws (lv_args 0 av) 0 0 0 []) : tMv l G T y b nL ES fr lo mc ms av Pre P := by
  intro ws hw hpre sz
  refine vx_ofW (cc := b) (maxL := nL) (ret := none) hy rfl ?_
  intro p e s m args below meth c s₁ B hml htab hv
  obtain ⟨rfl, hsz, hP, hK, hD0⟩ := hv
  subst hsz
  have hts := atoms_spec (ws := zWs y b nL none) B.pre
  have hlocks := B.notSynchronized
  obtain ⟨Q, hQ⟩ : ∃ Q, Q = vx_MQ below (tQv T G (P ws) (va_A ws s.heap.size)) (tXC T G ES (va_A ws s.heap.size)) av.toArray s mc ms (va_A ws s.heap.size) := ⟨_, rfl⟩
  have hC : zC (p, l, e, (headSpec (zWs y b nL none) { frames := fr, cells := mc, slots := ms, locals := lo }).room, s, m, av.toArray, below, meth, c, va_A ws s.heap.size, Q) l G y b nL fr lo mc ms :=
    ⟨rfl, rfl, B.exec, B.bytes, hml, findClass_of_methodNamed B.named, fun w hw => hts w (List.mem_cons_of_mem _ hw), (name_of_methodNamed B.named B.method).1, fun q h => Or.inr h, hK⟩
  have hR : uRv (p, l, e, (headSpec (zWs y b nL none) { frames := fr, cells := mc, slots := ms, locals := lo }).room, s, m, av.toArray, below, meth, c, va_A ws s.heap.size, Q) G nL b mc ms (fun k n w => tW T w ∧ P ws k n w) := by
    intro w lv k n pc hd hk hn2 hp H locs ls hP hD hS hl
    subst hQ
    refine vx_ret (fun T0 hT0 X0 => ?_)
    exact (W.vret B.exec B.bytes B.returns (fun t ht hW => ⟨k, n, ⟨⟨w, rfl, hp, by rw [zB, ht]; exact ⟨hP, hD⟩⟩, hS.F ht⟩, by have := t_none X0; unfold tSzb at this ⊢; rw [ht, ← hT0]; exact this⟩) hS.2.2 hd) T0 hT0 (stand_widen X0 hk hn2)
  have hO : tOut (p, l, e, (headSpec (zWs y b nL none) { frames := fr, cells := mc, slots := ms, locals := lo }).room, s, m, av.toArray, below, meth, c, va_A ws s.heap.size, Q) G nL ES mc ms T := by
    intro E w lv k n pc st q hE hk hn hp H locs ls ce hP hD hS hl h1 h2 h3
    subst hQ
    exact vx_out (fun x hx => (htab x hx).elim) hlocks h1 h2 h3 (fun t ht hvm => ⟨w, hp, ⟨hE, by rw [zB, ht]; exact ⟨hP, hD⟩⟩, hS.F ht⟩) hS.2.2 hk hn
  have hX : tThr (p, l, e, (headSpec (zWs y b nL none) { frames := fr, cells := mc, slots := ms, locals := lo }).room, s, m, av.toArray, below, meth, c, va_A ws s.heap.size, Q) G y nL b ES fr lo mc ms T := by
    intro E ws1 lv k n pc st ik ic names hE hw1 d0 d3 d4 d7 hf1 hf2 hk1 hk2 hg1 hg2 hg3 hfr hlo hk hn H locs ls hP hD hS hl
    subst hQ
    have ht : ∀ w ∈ zT, w.before av.toArray s = true := fun w hw => hts w (List.mem_cons_of_mem _ hw)
    have hat : ∀ w ∈ vx_at0 y.cls ic E names, w.before av.toArray s = true := vx_hat (B := zNest) (fun w hw => ht w (hg1 w hw)) hg2 (fun w hw => va_Nw.use (zNest_tables hw) (hK.2.2.2.2.2.2 w hw))
    refine vx_throw0 (own := y.cls) (cls := E) (names := names) (ik := ik) (ic := ic) (A := va_A ws s.heap.size) B.exec B.bytes hst (findClass_of_methodNamed B.named) hf1 hf2 (ht _ hk1) (ht _ hk2) hat ?_ hK.2.1.2.2.2.2.1 hK.2.1.2.2.2.2.2.1 hS (hl.1.trans hml.symm) d0 d3 d4 d7 (fun x hx => (htab x hx).elim) hfr hlo hk hn hlocks ?_ hS.2.2 hk hn
    · intro w hw
      rcases List.mem_cons.mp hw with rfl | hw
      · have := zT_good hk1
        unfold vx_ot
        rw [this, Bool.or_true]
      · rcases List.mem_cons.mp hw with rfl | hw
        · have := zT_good hk2
          unfold vx_ot
          rw [this, Bool.or_true]
        · exact hg3 w hw
    · intro t hvm h1 h2
      exact ⟨ws1, hw1, ⟨hE, hP.kept (fun i q hq => h2 q.1 ((hP i q hq).lt)), hD⟩, Nat.le_trans hS.1 h1, fun q hq hA => (h2 q (Nat.lt_of_lt_of_le hq hS.1)).trans (hS.2.1 q hq hA)⟩
  have hb := body ws hw hpre _ hC hR hO hX s.heap [] ((lg_sl av ++ List.replicate (nL - (lg_sl av).length) Slot.unset).toArray) hP hD0.self va_S.rf (lv_entry av hav)
  rw [lg_entry_eq]
  subst hQ
  exact hb
section TC
variable {p : Program} {l : Launch} {e : Env} {R : Room} {s : State} {m : MethodId} {args : Array Value} {below : List Frame} {meth : Method} {c : Code} {H : Heap} {locs : List Loc} {cells slots : Nat} {Q : State → Prop}
variable {mc ms : Nat} {free : Addr → Prop} {A0 A1 AX : Nat → Prop} {H0 : Heap} {a : Array Value} {pc : Nat} {ls : Array Slot} {st0 rest : List Value} {T : tT} {G : zG} {P : tPi} {Q0 : tPv} {ES : List String}
theorem tc_calli (hr : vx_Run p l e R s m args below meth c H locs cells slots mc ms (F0 m pc ls st0) rest (tQi T G P A1 a) (tXC T G ES AX) free) (hS : va_S A0 H0 H locs) (hA : ∀ q, q < H.size → A1 q → A0 q) (hf : ∀ q, free q → A0 q) (hAX : ∀ q, q < H.size → AX q → A0 q)
    (kx : ∀ (E : String) (ce : Cell) (q9 : Addr) (u : va_W) (t : State) (H1 : Heap) (locs1 : List Loc), t.heap = H1 → s.vm.Alike t.vm → tW T u → (E ∈ ES ∧ zB G AX u t) → H.size ≤ H1.size → (∀ q : Nat, q < H.size → ¬ AX q → H1[q]? = H[q]?) → va_S A0 H0 H1 locs1 → H1[q9]? = some ce → ce.vm = .none → s.vm.findClass E = some ce.cls → vx_W p l e R s m args below meth c H1 locs1 (cells + mc) (slots + ms) Q (F0 m pc ls rest) q9)
    (kk : ∀ (r : Int32) (c0 n0 : Nat) (u : va_W) (t : State) (H1 : Heap) (locs1 : List Loc), t.heap = H1 → s.vm.Alike t.vm → (tW T u ∧ P r c0 n0 u) → zB G A1 u t → H.size ≤ H1.size → (∀ q : Nat, q < H.size → ¬ A1 q → H1[q]? = H[q]?) → va_S A0 H0 H1 locs1 → W p l e R s m args below meth c H1 locs1 (cells + c0) (slots + n0) Q (F0 m (pc + 3) ls (.int r :: rest))) : W p l e R s m args below meth c H locs cells slots Q (F0 m pc ls st0) := by
  intro T0 hT X
  rcases hr T0 hT X with ⟨v, st₀, t, T', L, h0, X', hL, e1, e2, ⟨c0, n0, ⟨⟨r, u, hv, hp, hb⟩, hF⟩, hz⟩, st⟩ | ⟨q, st₀, t, T', L, E, ce, h0, X', hL, e1, e2, ⟨u, hp, hb, hF⟩, hce, hcv, hcl, st⟩
  · cases hv
    obtain ⟨k1, k2, k3⟩ := vx_keep h0 e1 hS hA hf hL hF
    have X2 := t_back X X' (by unfold tSzb at hz ⊢; rw [e1, hT, ← h0]; exact hz)
    obtain ⟨t2, a1, b1⟩ := kk r c0 n0 u t T'.heap (locs ++ L) e1.symm (by rw [← e2]; exact X'.warmed.alike) hp hb k1 k2 k3 T' rfl X2
    exact ⟨t2, st t2 a1, b1⟩
  · obtain ⟨k1, k2, k3⟩ := vx_keep h0 e1 hS hAX hf hL hF
    obtain ⟨t2, a1, b1⟩ := kx E ce q u t T'.heap (locs ++ L) e1.symm (by rw [← e2]; exact X'.warmed.alike) hp hb k1 k2 k3 (by rw [e1]; exact hce) hcv hcl T' rfl X'
    exact ⟨t2, st.trans a1, b1⟩
theorem tc_callv (hr : vx_Run p l e R s m args below meth c H locs cells slots mc ms (F0 m pc ls st0) rest (tQv T G Q0 A1 a) (tXC T G ES AX) free) (hS : va_S A0 H0 H locs) (hA : ∀ q, q < H.size → A1 q → A0 q) (hf : ∀ q, free q → A0 q) (hAX : ∀ q, q < H.size → AX q → A0 q)
    (kx : ∀ (E : String) (ce : Cell) (q9 : Addr) (u : va_W) (t : State) (H1 : Heap) (locs1 : List Loc), t.heap = H1 → s.vm.Alike t.vm → tW T u → (E ∈ ES ∧ zB G AX u t) → H.size ≤ H1.size → (∀ q : Nat, q < H.size → ¬ AX q → H1[q]? = H[q]?) → va_S A0 H0 H1 locs1 → H1[q9]? = some ce → ce.vm = .none → s.vm.findClass E = some ce.cls → vx_W p l e R s m args below meth c H1 locs1 (cells + mc) (slots + ms) Q (F0 m pc ls rest) q9)
    (kk : ∀ (c0 n0 : Nat) (u : va_W) (t : State) (H1 : Heap) (locs1 : List Loc), t.heap = H1 → s.vm.Alike t.vm → (tW T u ∧ Q0 c0 n0 u) → zB G A1 u t → H.size ≤ H1.size → (∀ q : Nat, q < H.size → ¬ A1 q → H1[q]? = H[q]?) → va_S A0 H0 H1 locs1 → W p l e R s m args below meth c H1 locs1 (cells + c0) (slots + n0) Q (F0 m (pc + 3) ls (rest))) : W p l e R s m args below meth c H locs cells slots Q (F0 m pc ls st0) := by
  intro T0 hT X
  rcases hr T0 hT X with ⟨v, st₀, t, T', L, h0, X', hL, e1, e2, ⟨c0, n0, ⟨⟨u, hv, hp, hb⟩, hF⟩, hz⟩, st⟩ | ⟨q, st₀, t, T', L, E, ce, h0, X', hL, e1, e2, ⟨u, hp, hb, hF⟩, hce, hcv, hcl, st⟩
  · cases hv
    obtain ⟨k1, k2, k3⟩ := vx_keep h0 e1 hS hA hf hL hF
    have X2 := t_back X X' (by unfold tSzb at hz ⊢; rw [e1, hT, ← h0]; exact hz)
    obtain ⟨t2, a1, b1⟩ := kk c0 n0 u t T'.heap (locs ++ L) e1.symm (by rw [← e2]; exact X'.warmed.alike) hp hb k1 k2 k3 T' rfl X2
    exact ⟨t2, st t2 a1, b1⟩
  · obtain ⟨k1, k2, k3⟩ := vx_keep h0 e1 hS hAX hf hL hF
    obtain ⟨t2, a1, b1⟩ := kx E ce q u t T'.heap (locs ++ L) e1.symm (by rw [← e2]; exact X'.warmed.alike) hp hb k1 k2 k3 (by rw [e1]; exact hce) hcv hcl T' rfl X'
    exact ⟨t2, st.trans a1, b1⟩
end TC
section TCALL
variable {X : zX} {l : Launch} {G : zG} {y : MethodName} {cc : ByteArray} {nL fr lo mc ms : Nat} {ws : va_W} {lv : List (Nat × Value)} {k n pc : Nat} {st stk : List Value} {T : tT}
variable {y' : MethodName} {b' : ByteArray} {nL' fr' lo' mc' ms' na idx : Nat} {ty : FieldType}
theorem t_callVi (hC : zC X l G y cc nL fr lo mc ms) (hw : tW T ws) {a : Nat} {As : List Value} {ES : List String} {Pre : va_W → Prop} {P : va_W → tPi} (hM : tMi l G T y' b' nL' ty ES fr' lo' mc' ms' (.ref a :: As) Pre P) (hp0 : Pre ws) (hDe : zDv y' b' nL' (some ty) na) {ci N : Nat} {TT : u_T} {tyf : Nat → FieldType} {ts : List (Value → Prop)} (hF : zF ci y'.cls TT N tyf) {q : Nat} (hq : T[q]? = some (a, tO ci ts)) (hd : decode cc pc = .ok (.invokevirtual idx, 3)) (hwd : Cond.methodLink y.cls idx y' ∈ zT) (hst : stk = As.reverse ++ .ref a :: st) (hna : As.length = na) (hk : k + mc' ≤ mc) (hn : n + ms' ≤ ms) (hfr : fr' + 1 ≤ fr) (hlo : 8 + (nL' + 11) + lo' ≤ lo) (hm : (st.map fun v => v.category).sum ≤ 8)
    (kt : ∀ E ws q, E ∈ ES → tW T ws → zSx X G nL E ws lv (k + mc') (n + ms') pc st q) (kk : ∀ r c0 n0 w, tW T w → P ws r c0 n0 w → zS X G nL w lv (k + c0) (n + n0) (pc + 3) (.int r :: st)) : zS X G nL ws lv k n pc stk := by
  obtain ⟨e0, hrec, fs, rfl, -, -⟩ := hw.cell hq
  obtain ⟨p, l', e, R, s, m, args, below, meth, c, A, Q⟩ := X
  obtain ⟨rfl, rfl, hx, hb, hml, hown, hts, hnm, hA, hK⟩ := hC
  intro H locs ls hP hD hS hl
  have hIC := t_range ws
  have hIR : ([] : List Nat).map (fun i => ws[i]?) = ([] : va_W).map some := rfl
  have hFc : ∀ q, va_A ws H.size q → A q := fun q h => by
    rcases h with ⟨k2, e2, h⟩ | h
    · exact hD.2 k2 _ h
    · exact hA q (Nat.le_trans hS.1 h)
  refine tc_calli (vx_runV (As := As) (rest := st) ⟨hx, hb, hml, hown, hts⟩ (hM ws hw hp0 H.size) (cwV na hts (zDv.good hDe hwd) rfl rfl rfl ⟨rfl, hDe.1.1.1, hDe.1.1.2.1, hDe.1.1.2.2⟩ ⟨hfr, hlo⟩) ⟨zPc.blind, va_recv (hK.1.sub [] rfl) hP hF.1 hrec, fun U hU hW => zPc.pre (ws := ws) hK hS hFc hP hD hU hW⟩ rfl hna hl.1 hst (lv_room hm) hd ⟨hk, hn⟩) hS (fun q _ h => hFc q h) hFc (fun q _ h => hFc q h)
    (fun E9 ce q9 w t H1 locs1 ht hvm hp hB hz1 hk1 hS1 hce hcv hcl => ?_) (fun r c0 n0 w t H1 locs1 ht hvm hp hB hz1 hk1 hS1 => ?_)
  · obtain ⟨hE, hP1, hD1⟩ := hB
    rw [ht] at hP1
    obtain ⟨hP', hD'⟩ := va_join hP hD (List.range ws.length) [] hIC hIR rfl (fun i hi => by cases hi) hk1 hFc hP1 hD1
    exact kt E9 w q9 hE hp H1 locs1 ls ce hP' hD' hS1 hl hce hcv hcl
  · obtain ⟨hP1, hD1⟩ := hB
    rw [ht] at hP1
    obtain ⟨hP', hD'⟩ := va_join hP hD (List.range ws.length) [] hIC hIR rfl (fun i hi => by cases hi) hk1 hFc hP1 hD1
    exact kk r c0 n0 w hp.1 hp.2 H1 locs1 ls hP' hD' hS1 hl
theorem t_callVv (hC : zC X l G y cc nL fr lo mc ms) (hw : tW T ws) {a : Nat} {As : List Value} {ES : List String} {Pre : va_W → Prop} {P : va_W → tPv} (hM : tMv l G T y' b' nL' ES fr' lo' mc' ms' (.ref a :: As) Pre P) (hp0 : Pre ws) (hDe : zDv y' b' nL' none na) {ci N : Nat} {TT : u_T} {tyf : Nat → FieldType} {ts : List (Value → Prop)} (hF : zF ci y'.cls TT N tyf) {q : Nat} (hq : T[q]? = some (a, tO ci ts)) (hd : decode cc pc = .ok (.invokevirtual idx, 3)) (hwd : Cond.methodLink y.cls idx y' ∈ zT) (hst : stk = As.reverse ++ .ref a :: st) (hna : As.length = na) (hk : k + mc' ≤ mc) (hn : n + ms' ≤ ms) (hfr : fr' + 1 ≤ fr) (hlo : 8 + (nL' + 11) + lo' ≤ lo) (hm : (st.map fun v => v.category).sum ≤ 8)
    (kt : ∀ E ws q, E ∈ ES → tW T ws → zSx X G nL E ws lv (k + mc') (n + ms') pc st q) (kk : ∀ c0 n0 w, tW T w → P ws c0 n0 w → zS X G nL w lv (k + c0) (n + n0) (pc + 3) st) : zS X G nL ws lv k n pc stk := by
  obtain ⟨e0, hrec, fs, rfl, -, -⟩ := hw.cell hq
  obtain ⟨p, l', e, R, s, m, args, below, meth, c, A, Q⟩ := X
  obtain ⟨rfl, rfl, hx, hb, hml, hown, hts, hnm, hA, hK⟩ := hC
  intro H locs ls hP hD hS hl
  have hIC := t_range ws
  have hIR : ([] : List Nat).map (fun i => ws[i]?) = ([] : va_W).map some := rfl
  have hFc : ∀ q, va_A ws H.size q → A q := fun q h => by
    rcases h with ⟨k2, e2, h⟩ | h
    · exact hD.2 k2 _ h
    · exact hA q (Nat.le_trans hS.1 h)
  refine tc_callv (vx_runV (As := As) (rest := st) ⟨hx, hb, hml, hown, hts⟩ (hM ws hw hp0 H.size) (cwV na hts (zDv.good hDe hwd) rfl rfl rfl ⟨rfl, hDe.1.1.1, hDe.1.1.2.1, hDe.1.1.2.2⟩ ⟨hfr, hlo⟩) ⟨zPc.blind, va_recv (hK.1.sub [] rfl) hP hF.1 hrec, fun U hU hW => zPc.pre (ws := ws) hK hS hFc hP hD hU hW⟩ rfl hna hl.1 hst (lv_room hm) hd ⟨hk, hn⟩) hS (fun q _ h => hFc q h) hFc (fun q _ h => hFc q h)
    (fun E9 ce q9 w t H1 locs1 ht hvm hp hB hz1 hk1 hS1 hce hcv hcl => ?_) (fun c0 n0 w t H1 locs1 ht hvm hp hB hz1 hk1 hS1 => ?_)
  · obtain ⟨hE, hP1, hD1⟩ := hB
    rw [ht] at hP1
    obtain ⟨hP', hD'⟩ := va_join hP hD (List.range ws.length) [] hIC hIR rfl (fun i hi => by cases hi) hk1 hFc hP1 hD1
    exact kt E9 w q9 hE hp H1 locs1 ls ce hP' hD' hS1 hl hce hcv hcl
  · obtain ⟨hP1, hD1⟩ := hB
    rw [ht] at hP1
    obtain ⟨hP', hD'⟩ := va_join hP hD (List.range ws.length) [] hIC hIR rfl (fun i hi => by cases hi) hk1 hFc hP1 hD1
    exact kk c0 n0 w hp.1 hp.2 H1 locs1 ls hP' hD' hS1 hl
theorem t_callSi (hC : zC X l G y cc nL fr lo mc ms) (hw : tW T ws) {As : List Value} {ES : List String} {Pre : va_W → Prop} {P : va_W → tPi} (hM : tMi l G T y' b' nL' ty ES fr' lo' mc' ms' As Pre P) (hp0 : Pre ws) (hDe : zDs y' b' nL' (some ty) na) (hd : decode cc pc = .ok (.invokestatic idx, 3)) (hwd : Cond.methodLink y.cls idx y' ∈ zT) (hst : stk = As.reverse ++ st) (hna : As.length = na) (hk : k + mc' ≤ mc) (hn : n + ms' ≤ ms) (hfr : fr' + 1 ≤ fr) (hlo : 8 + (nL' + 11) + lo' ≤ lo) (hm : (st.map fun v => v.category).sum ≤ 8)
    (kt : ∀ E ws q, E ∈ ES → tW T ws → zSx X G nL E ws lv (k + mc') (n + ms') pc st q) (kk : ∀ r c0 n0 w, tW T w → P ws r c0 n0 w → zS X G nL w lv (k + c0) (n + n0) (pc + 3) (.int r :: st)) : zS X G nL ws lv k n pc stk := by
  obtain ⟨p, l', e, R, s, m, args, below, meth, c, A, Q⟩ := X
  obtain ⟨rfl, rfl, hx, hb, hml, hown, hts, hnm, hA, hK⟩ := hC
  intro H locs ls hP hD hS hl
  have hIC := t_range ws
  have hIR : ([] : List Nat).map (fun i => ws[i]?) = ([] : va_W).map some := rfl
  have hFc : ∀ q, va_A ws H.size q → A q := fun q h => by
    rcases h with ⟨k2, e2, h⟩ | h
    · exact hD.2 k2 _ h
    · exact hA q (Nat.le_trans hS.1 h)
  refine tc_calli (vx_runS (As := As) (rest := st) ⟨hx, hb, hml, hown, hts⟩ (hM ws hw hp0 H.size) (va_cwS na hts (zDs.good hDe hwd) rfl rfl rfl ⟨hDe.1.1.1, hDe.1.1.2.1, hDe.1.1.2.2⟩ ⟨hfr, hlo⟩) ⟨zPc.blind, fun U hU hW => zPc.pre (ws := ws) hK hS hFc hP hD hU hW⟩ rfl hna hl.1 hst (lv_room hm) hd ⟨hk, hn⟩) hS (fun q _ h => hFc q h) hFc (fun q _ h => hFc q h)
    (fun E9 ce q9 w t H1 locs1 ht hvm hp hB hz1 hk1 hS1 hce hcv hcl => ?_) (fun r c0 n0 w t H1 locs1 ht hvm hp hB hz1 hk1 hS1 => ?_)
  · obtain ⟨hE, hP1, hD1⟩ := hB
    rw [ht] at hP1
    obtain ⟨hP', hD'⟩ := va_join hP hD (List.range ws.length) [] hIC hIR rfl (fun i hi => by cases hi) hk1 hFc hP1 hD1
    exact kt E9 w q9 hE hp H1 locs1 ls ce hP' hD' hS1 hl hce hcv hcl
  · obtain ⟨hP1, hD1⟩ := hB
    rw [ht] at hP1
    obtain ⟨hP', hD'⟩ := va_join hP hD (List.range ws.length) [] hIC hIR rfl (fun i hi => by cases hi) hk1 hFc hP1 hD1
    exact kk r c0 n0 w hp.1 hp.2 H1 locs1 ls hP' hD' hS1 hl
theorem t_callSv (hC : zC X l G y cc nL fr lo mc ms) (hw : tW T ws) {As : List Value} {ES : List String} {Pre : va_W → Prop} {P : va_W → tPv} (hM : tMv l G T y' b' nL' ES fr' lo' mc' ms' As Pre P) (hp0 : Pre ws) (hDe : zDs y' b' nL' none na) (hd : decode cc pc = .ok (.invokestatic idx, 3)) (hwd : Cond.methodLink y.cls idx y' ∈ zT) (hst : stk = As.reverse ++ st) (hna : As.length = na) (hk : k + mc' ≤ mc) (hn : n + ms' ≤ ms) (hfr : fr' + 1 ≤ fr) (hlo : 8 + (nL' + 11) + lo' ≤ lo) (hm : (st.map fun v => v.category).sum ≤ 8)
    (kt : ∀ E ws q, E ∈ ES → tW T ws → zSx X G nL E ws lv (k + mc') (n + ms') pc st q) (kk : ∀ c0 n0 w, tW T w → P ws c0 n0 w → zS X G nL w lv (k + c0) (n + n0) (pc + 3) st) : zS X G nL ws lv k n pc stk := by
  obtain ⟨p, l', e, R, s, m, args, below, meth, c, A, Q⟩ := X
  obtain ⟨rfl, rfl, hx, hb, hml, hown, hts, hnm, hA, hK⟩ := hC
  intro H locs ls hP hD hS hl
  have hIC := t_range ws
  have hIR : ([] : List Nat).map (fun i => ws[i]?) = ([] : va_W).map some := rfl
  have hFc : ∀ q, va_A ws H.size q → A q := fun q h => by
    rcases h with ⟨k2, e2, h⟩ | h
    · exact hD.2 k2 _ h
    · exact hA q (Nat.le_trans hS.1 h)
  refine tc_callv (vx_runS (As := As) (rest := st) ⟨hx, hb, hml, hown, hts⟩ (hM ws hw hp0 H.size) (va_cwS na hts (zDs.good hDe hwd) rfl rfl rfl ⟨hDe.1.1.1, hDe.1.1.2.1, hDe.1.1.2.2⟩ ⟨hfr, hlo⟩) ⟨zPc.blind, fun U hU hW => zPc.pre (ws := ws) hK hS hFc hP hD hU hW⟩ rfl hna hl.1 hst (lv_room hm) hd ⟨hk, hn⟩) hS (fun q _ h => hFc q h) hFc (fun q _ h => hFc q h)
    (fun E9 ce q9 w t H1 locs1 ht hvm hp hB hz1 hk1 hS1 hce hcv hcl => ?_) (fun c0 n0 w t H1 locs1 ht hvm hp hB hz1 hk1 hS1 => ?_)
  · obtain ⟨hE, hP1, hD1⟩ := hB
    rw [ht] at hP1
    obtain ⟨hP', hD'⟩ := va_join hP hD (List.range ws.length) [] hIC hIR rfl (fun i hi => by cases hi) hk1 hFc hP1 hD1
    exact kt E9 w q9 hE hp H1 locs1 ls ce hP' hD' hS1 hl hce hcv hcl
  · obtain ⟨hP1, hD1⟩ := hB
    rw [ht] at hP1
    obtain ⟨hP', hD'⟩ := va_join hP hD (List.range ws.length) [] hIC hIR rfl (fun i hi => by cases hi) hk1 hFc hP1 hD1
    exact kk c0 n0 w hp.1 hp.2 H1 locs1 ls hP' hD' hS1 hl
theorem t_callVNi (hC : zC X l G y cc nL fr lo mc ms) (hw : tW T ws) {a : Nat} {As : List Value} {ES : List String} {Pre : va_W → Prop} {P : va_W → tPi} (hM : tMi l G T y' b' nL' ty ES fr' lo' mc' ms' (.ref a :: As) Pre P) (hp0 : Pre ws) (hDe : zDv y' b' nL' (some ty) na) {ci N : Nat} {TT : u_T} {tyf : Nat → FieldType} {ts : List (Value → Prop)} (hF : zF ci y'.cls TT N tyf) {q : Nat} (hq : T[q]? = some (a, tO ci ts)) (hd : decode cc pc = .ok (.invokevirtual idx, 3)) {host : String} (hwd : Cond.methodLinkNest y.cls idx y' host ∈ zNest) (hst : stk = As.reverse ++ .ref a :: st) (hna : As.length = na) (hk : k + mc' ≤ mc) (hn : n + ms' ≤ ms) (hfr : fr' + 1 ≤ fr) (hlo : 8 + (nL' + 11) + lo' ≤ lo) (hm : (st.map fun v => v.category).sum ≤ 8)
    (kt : ∀ E ws q, E ∈ ES → tW T ws → zSx X G nL E ws lv (k + mc') (n + ms') pc st q) (kk : ∀ r c0 n0 w, tW T w → P ws r c0 n0 w → zS X G nL w lv (k + c0) (n + n0) (pc + 3) (.int r :: st)) : zS X G nL ws lv k n pc stk := by
  obtain ⟨e0, hrec, fs, rfl, -, -⟩ := hw.cell hq
  obtain ⟨p, l', e, R, s, m, args, below, meth, c, A, Q⟩ := X
  obtain ⟨rfl, rfl, hx, hb, hml, hown, hts, hnm, hA, hK⟩ := hC
  intro H locs ls hP hD hS hl
  have hIC := t_range ws
  have hIR : ([] : List Nat).map (fun i => ws[i]?) = ([] : va_W).map some := rfl
  have hFc : ∀ q, va_A ws H.size q → A q := fun q h => by
    rcases h with ⟨k2, e2, h⟩ | h
    · exact hD.2 k2 _ h
    · exact hA q (Nat.le_trans hS.1 h)
  refine tc_calli (tn_runVN (As := As) (rest := st) ⟨hx, hb, hml, hown, hts⟩ (hM ws hw hp0 H.size) ⟨va_cnB na hts (zDe.good hDe.1) rfl rfl rfl (hK.2.2.2.2.2.2 _ hwd) (hts _ hDe.1.2.2) hDe.1.1 ⟨hfr, hlo⟩, hts _ hDe.2.1, hts _ hDe.2.2⟩ ⟨zPc.blind, va_recv (hK.1.sub [] rfl) hP hF.1 hrec, fun U hU hW => zPc.pre (ws := ws) hK hS hFc hP hD hU hW⟩ rfl hna hl.1 hst (lv_room hm) hd ⟨hk, hn⟩) hS (fun q _ h => hFc q h) hFc (fun q _ h => hFc q h)
    (fun E9 ce q9 w t H1 locs1 ht hvm hp hB hz1 hk1 hS1 hce hcv hcl => ?_) (fun r c0 n0 w t H1 locs1 ht hvm hp hB hz1 hk1 hS1 => ?_)
  · obtain ⟨hE, hP1, hD1⟩ := hB
    rw [ht] at hP1
    obtain ⟨hP', hD'⟩ := va_join hP hD (List.range ws.length) [] hIC hIR rfl (fun i hi => by cases hi) hk1 hFc hP1 hD1
    exact kt E9 w q9 hE hp H1 locs1 ls ce hP' hD' hS1 hl hce hcv hcl
  · obtain ⟨hP1, hD1⟩ := hB
    rw [ht] at hP1
    obtain ⟨hP', hD'⟩ := va_join hP hD (List.range ws.length) [] hIC hIR rfl (fun i hi => by cases hi) hk1 hFc hP1 hD1
    exact kk r c0 n0 w hp.1 hp.2 H1 locs1 ls hP' hD' hS1 hl
theorem t_callVNv (hC : zC X l G y cc nL fr lo mc ms) (hw : tW T ws) {a : Nat} {As : List Value} {ES : List String} {Pre : va_W → Prop} {P : va_W → tPv} (hM : tMv l G T y' b' nL' ES fr' lo' mc' ms' (.ref a :: As) Pre P) (hp0 : Pre ws) (hDe : zDv y' b' nL' none na) {ci N : Nat} {TT : u_T} {tyf : Nat → FieldType} {ts : List (Value → Prop)} (hF : zF ci y'.cls TT N tyf) {q : Nat} (hq : T[q]? = some (a, tO ci ts)) (hd : decode cc pc = .ok (.invokevirtual idx, 3)) {host : String} (hwd : Cond.methodLinkNest y.cls idx y' host ∈ zNest) (hst : stk = As.reverse ++ .ref a :: st) (hna : As.length = na) (hk : k + mc' ≤ mc) (hn : n + ms' ≤ ms) (hfr : fr' + 1 ≤ fr) (hlo : 8 + (nL' + 11) + lo' ≤ lo) (hm : (st.map fun v => v.category).sum ≤ 8)
    (kt : ∀ E ws q, E ∈ ES → tW T ws → zSx X G nL E ws lv (k + mc') (n + ms') pc st q) (kk : ∀ c0 n0 w, tW T w → P ws c0 n0 w → zS X G nL w lv (k + c0) (n + n0) (pc + 3) st) : zS X G nL ws lv k n pc stk := by
  obtain ⟨e0, hrec, fs, rfl, -, -⟩ := hw.cell hq
  obtain ⟨p, l', e, R, s, m, args, below, meth, c, A, Q⟩ := X
  obtain ⟨rfl, rfl, hx, hb, hml, hown, hts, hnm, hA, hK⟩ := hC
  intro H locs ls hP hD hS hl
  have hIC := t_range ws
  have hIR : ([] : List Nat).map (fun i => ws[i]?) = ([] : va_W).map some := rfl
  have hFc : ∀ q, va_A ws H.size q → A q := fun q h => by
    rcases h with ⟨k2, e2, h⟩ | h
    · exact hD.2 k2 _ h
    · exact hA q (Nat.le_trans hS.1 h)
  refine tc_callv (tn_runVN (As := As) (rest := st) ⟨hx, hb, hml, hown, hts⟩ (hM ws hw hp0 H.size) ⟨va_cnB na hts (zDe.good hDe.1) rfl rfl rfl (hK.2.2.2.2.2.2 _ hwd) (hts _ hDe.1.2.2) hDe.1.1 ⟨hfr, hlo⟩, hts _ hDe.2.1, hts _ hDe.2.2⟩ ⟨zPc.blind, va_recv (hK.1.sub [] rfl) hP hF.1 hrec, fun U hU hW => zPc.pre (ws := ws) hK hS hFc hP hD hU hW⟩ rfl hna hl.1 hst (lv_room hm) hd ⟨hk, hn⟩) hS (fun q _ h => hFc q h) hFc (fun q _ h => hFc q h)
    (fun E9 ce q9 w t H1 locs1 ht hvm hp hB hz1 hk1 hS1 hce hcv hcl => ?_) (fun c0 n0 w t H1 locs1 ht hvm hp hB hz1 hk1 hS1 => ?_)
  · obtain ⟨hE, hP1, hD1⟩ := hB
    rw [ht] at hP1
    obtain ⟨hP', hD'⟩ := va_join hP hD (List.range ws.length) [] hIC hIR rfl (fun i hi => by cases hi) hk1 hFc hP1 hD1
    exact kt E9 w q9 hE hp H1 locs1 ls ce hP' hD' hS1 hl hce hcv hcl
  · obtain ⟨hP1, hD1⟩ := hB
    rw [ht] at hP1
    obtain ⟨hP', hD'⟩ := va_join hP hD (List.range ws.length) [] hIC hIR rfl (fun i hi => by cases hi) hk1 hFc hP1 hD1
    exact kk c0 n0 w hp.1 hp.2 H1 locs1 ls hP' hD' hS1 hl
theorem t_callSNi (hC : zC X l G y cc nL fr lo mc ms) (hw : tW T ws) {As : List Value} {ES : List String} {Pre : va_W → Prop} {P : va_W → tPi} (hM : tMi l G T y' b' nL' ty ES fr' lo' mc' ms' As Pre P) (hp0 : Pre ws) (hDe : zDs y' b' nL' (some ty) na) (hd : decode cc pc = .ok (.invokestatic idx, 3)) {host : String} (hwd : Cond.methodLinkNest y.cls idx y' host ∈ zNest) (hst : stk = As.reverse ++ st) (hna : As.length = na) (hk : k + mc' ≤ mc) (hn : n + ms' ≤ ms) (hfr : fr' + 1 ≤ fr) (hlo : 8 + (nL' + 11) + lo' ≤ lo) (hm : (st.map fun v => v.category).sum ≤ 8)
    (kt : ∀ E ws q, E ∈ ES → tW T ws → zSx X G nL E ws lv (k + mc') (n + ms') pc st q) (kk : ∀ r c0 n0 w, tW T w → P ws r c0 n0 w → zS X G nL w lv (k + c0) (n + n0) (pc + 3) (.int r :: st)) : zS X G nL ws lv k n pc stk := by
  obtain ⟨p, l', e, R, s, m, args, below, meth, c, A, Q⟩ := X
  obtain ⟨rfl, rfl, hx, hb, hml, hown, hts, hnm, hA, hK⟩ := hC
  intro H locs ls hP hD hS hl
  have hIC := t_range ws
  have hIR : ([] : List Nat).map (fun i => ws[i]?) = ([] : va_W).map some := rfl
  have hFc : ∀ q, va_A ws H.size q → A q := fun q h => by
    rcases h with ⟨k2, e2, h⟩ | h
    · exact hD.2 k2 _ h
    · exact hA q (Nat.le_trans hS.1 h)
  refine tc_calli (tn_runSN (As := As) (rest := st) ⟨hx, hb, hml, hown, hts⟩ (hM ws hw hp0 H.size) ⟨va_cnB na hts (zDe.good hDe.1) rfl rfl rfl (hK.2.2.2.2.2.2 _ hwd) (hts _ hDe.1.2.2) hDe.1.1 ⟨hfr, hlo⟩, hts _ hDe.2, trivial⟩ ⟨zPc.blind, fun U hU hW => zPc.pre (ws := ws) hK hS hFc hP hD hU hW⟩ rfl hna hl.1 hst (lv_room hm) hd ⟨hk, hn⟩) hS (fun q _ h => hFc q h) hFc (fun q _ h => hFc q h)
    (fun E9 ce q9 w t H1 locs1 ht hvm hp hB hz1 hk1 hS1 hce hcv hcl => ?_) (fun r c0 n0 w t H1 locs1 ht hvm hp hB hz1 hk1 hS1 => ?_)
  · obtain ⟨hE, hP1, hD1⟩ := hB
    rw [ht] at hP1
    obtain ⟨hP', hD'⟩ := va_join hP hD (List.range ws.length) [] hIC hIR rfl (fun i hi => by cases hi) hk1 hFc hP1 hD1
    exact kt E9 w q9 hE hp H1 locs1 ls ce hP' hD' hS1 hl hce hcv hcl
  · obtain ⟨hP1, hD1⟩ := hB
    rw [ht] at hP1
    obtain ⟨hP', hD'⟩ := va_join hP hD (List.range ws.length) [] hIC hIR rfl (fun i hi => by cases hi) hk1 hFc hP1 hD1
    exact kk r c0 n0 w hp.1 hp.2 H1 locs1 ls hP' hD' hS1 hl
theorem t_callSNv (hC : zC X l G y cc nL fr lo mc ms) (hw : tW T ws) {As : List Value} {ES : List String} {Pre : va_W → Prop} {P : va_W → tPv} (hM : tMv l G T y' b' nL' ES fr' lo' mc' ms' As Pre P) (hp0 : Pre ws) (hDe : zDs y' b' nL' none na) (hd : decode cc pc = .ok (.invokestatic idx, 3)) {host : String} (hwd : Cond.methodLinkNest y.cls idx y' host ∈ zNest) (hst : stk = As.reverse ++ st) (hna : As.length = na) (hk : k + mc' ≤ mc) (hn : n + ms' ≤ ms) (hfr : fr' + 1 ≤ fr) (hlo : 8 + (nL' + 11) + lo' ≤ lo) (hm : (st.map fun v => v.category).sum ≤ 8)
    (kt : ∀ E ws q, E ∈ ES → tW T ws → zSx X G nL E ws lv (k + mc') (n + ms') pc st q) (kk : ∀ c0 n0 w, tW T w → P ws c0 n0 w → zS X G nL w lv (k + c0) (n + n0) (pc + 3) st) : zS X G nL ws lv k n pc stk := by
  obtain ⟨p, l', e, R, s, m, args, below, meth, c, A, Q⟩ := X
  obtain ⟨rfl, rfl, hx, hb, hml, hown, hts, hnm, hA, hK⟩ := hC
  intro H locs ls hP hD hS hl
  have hIC := t_range ws
  have hIR : ([] : List Nat).map (fun i => ws[i]?) = ([] : va_W).map some := rfl
  have hFc : ∀ q, va_A ws H.size q → A q := fun q h => by
    rcases h with ⟨k2, e2, h⟩ | h
    · exact hD.2 k2 _ h
    · exact hA q (Nat.le_trans hS.1 h)
  refine tc_callv (tn_runSN (As := As) (rest := st) ⟨hx, hb, hml, hown, hts⟩ (hM ws hw hp0 H.size) ⟨va_cnB na hts (zDe.good hDe.1) rfl rfl rfl (hK.2.2.2.2.2.2 _ hwd) (hts _ hDe.1.2.2) hDe.1.1 ⟨hfr, hlo⟩, hts _ hDe.2, trivial⟩ ⟨zPc.blind, fun U hU hW => zPc.pre (ws := ws) hK hS hFc hP hD hU hW⟩ rfl hna hl.1 hst (lv_room hm) hd ⟨hk, hn⟩) hS (fun q _ h => hFc q h) hFc (fun q _ h => hFc q h)
    (fun E9 ce q9 w t H1 locs1 ht hvm hp hB hz1 hk1 hS1 hce hcv hcl => ?_) (fun c0 n0 w t H1 locs1 ht hvm hp hB hz1 hk1 hS1 => ?_)
  · obtain ⟨hE, hP1, hD1⟩ := hB
    rw [ht] at hP1
    obtain ⟨hP', hD'⟩ := va_join hP hD (List.range ws.length) [] hIC hIR rfl (fun i hi => by cases hi) hk1 hFc hP1 hD1
    exact kt E9 w q9 hE hp H1 locs1 ls ce hP' hD' hS1 hl hce hcv hcl
  · obtain ⟨hP1, hD1⟩ := hB
    rw [ht] at hP1
    obtain ⟨hP', hD'⟩ := va_join hP hD (List.range ws.length) [] hIC hIR rfl (fun i hi => by cases hi) hk1 hFc hP1 hD1
    exact kk c0 n0 w hp.1 hp.2 H1 locs1 ls hP' hD' hS1 hl
end TCALL
