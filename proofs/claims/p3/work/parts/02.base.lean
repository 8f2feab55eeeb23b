/-! The bundled judgement: all that stays the same in a method's walk is one tuple X; a state of the walk is its world, locals, counters, pc and stack. -/
theorem zT_in {w : Cond} (h : w ∈ zT) : w ∈ lw_tbl := (List.mem_filter.mp h).1
theorem zT_good {w : Cond} (h : w ∈ zT) : goodWord w = true := (List.mem_filter.mp h).2
theorem zGood {ws : List Cond} (h : ∀ w ∈ ws, w ∈ zT) : GoodIn zT ws := fun w hw => ⟨h w hw, good_of_word (zT_good (h w hw))⟩
abbrev zX := Program × Launch × Env × Room × State × MethodId × Array Value × List Frame × Method × Code × (Nat → Prop) × (State → Prop)
/-- constants of the heap that nobody writes: the two names of a turn, the words of the files; array classes -/
def zAOA (t : FieldType) (U : State) : Prop := (Cond.arrayOver (.array t)).before #[] U = true
def zStr (a v n : Nat) (A : Nat → Prop) (U : State) (H : Heap) : Prop := va_O "java/lang/String" a A U H ∧ va_OF "java/lang/String" "coder" "B" (.int 0) a A U H ∧ va_OF "java/lang/String" "value" "[B" (.ref v) a A U H ∧ ∃ f : Nat → Int32, va_T .byte v n (fun j => .int (f j)) A U H
theorem zStr.moved {a v n : Nat} {A : Nat → Prop} {u U : State} {H : Heap} (hvm : u.vm.Alike U.vm) (h : zStr a v n A u H) : zStr a v n A U H := ⟨va_O.moved hvm h.1, va_OF.moved hvm h.2.1, va_OF.moved hvm h.2.2.1, h.2.2.2.choose, va_T.moved hvm h.2.2.2.choose_spec⟩
theorem zStr.kept {a v n : Nat} {A : Nat → Prop} {U : State} {H H1 : Heap} (h : zStr a v n A U H) (hq : ∀ a : Nat, a < H.size → ¬ A a → H1[a]? = H[a]?) : zStr a v n A U H1 := ⟨h.1.kept hq, h.2.1.kept hq, h.2.2.1.kept hq, h.2.2.2.choose, h.2.2.2.choose_spec.kept hq⟩
theorem zStr.narrow {a v n : Nat} {A B : Nat → Prop} {U : State} {H : Heap} (h : zStr a v n A U H) (hAB : ∀ q, B q → A q) : zStr a v n B U H := ⟨h.1.narrow hAB, h.2.1.narrow hAB, h.2.2.1.narrow hAB, h.2.2.2.choose, h.2.2.2.choose_spec.narrow hAB⟩
def strC : List (String × Nat × String × Nat) := [("TemplateHouse$FileReader", 144, "delimiters", 0), ("TemplateHouse$FileReader", 163, "import", 1), ("TemplateHouse$FileReader", 190, "\"'(){}[],.:;=|!&@\\_", 2), ("TemplateHouse$FileReader", 200, "delimiters import default key true false ", 3), ("TemplateHouse$FileReader", 280, "true", 4), ("TemplateHouse$FileReader", 282, "key", 5), ("TemplateHouse$FileReader", 284, "false", 6), ("TemplateHouse$FileReader", 298, "default", 7), ("TemplateHouse$Heap", 222, "true", 8), ("TemplateHouse$Heap", 224, "false", 9), ("TemplateHouse$Maker", 391, "&amp;", 10), ("TemplateHouse$Maker", 393, "&lt;", 11), ("TemplateHouse$Maker", 395, "&gt;", 12), ("TemplateHouse$Maker", 397, "&quot;", 13), ("TemplateHouse$Maker", 530, "keys", 14), ("TemplateHouse$Maker", 536, "values", 15), ("TemplateHouse$Maker", 579, "upper lower cap xml url ", 16), ("TemplateHouse$TextReader", 134, "first last rest trunc strip reverse length strlen trim if elseif else endif super true false ", 17), ("TemplateHouse$TextReader", 202, "end", 18), ("TemplateHouse$TextReader", 211, "super", 19), ("TemplateHouse$TextReader", 271, "separator null format wrap anchor ", 20), ("TemplateHouse$TextReader", 338, " ", 21), ("TemplateHouseModel", 311, "delimiters", 22), ("TemplateHouseModel", 317, "import", 23), ("TemplateHouseModel", 319, "default", 24), ("TemplateHouseModel", 321, "key", 25), ("TemplateHouseModel", 323, "true", 26), ("TemplateHouseModel", 325, "false", 27), ("TemplateHouseModel", 403, ",", 28), ("TemplateHouseModel", 428, "\"(){}[],.:;=|!&@\\'", 29), ("TemplateHouseModel", 462, "::=", 30), ("TemplateHouseModel", 501, ".", 31), ("TemplateHouseModel", 503, "(", 32), ("TemplateHouseModel", 505, ")", 33), ("TemplateHouseModel", 510, "=", 34), ("TemplateHouseModel", 523, "]", 35), ("TemplateHouseModel", 528, ":", 36), ("TemplateHouseModel", 574, "first", 37), ("TemplateHouseModel", 579, "last", 38), ("TemplateHouseModel", 581, "rest", 39), ("TemplateHouseModel", 583, "trunc", 40), ("TemplateHouseModel", 585, "strip", 41), ("TemplateHouseModel", 587, "reverse", 42), ("TemplateHouseModel", 589, "length", 43), ("TemplateHouseModel", 590, "strlen", 44), ("TemplateHouseModel", 592, "trim", 45), ("TemplateHouseModel", 594, "if", 46), ("TemplateHouseModel", 596, "elseif", 47), ("TemplateHouseModel", 598, "else", 48), ("TemplateHouseModel", 600, "endif", 49), ("TemplateHouseModel", 608, "super", 50), ("TemplateHouseModel", 656, "end", 51), ("TemplateHouseModel", 701, "separator", 52), ("TemplateHouseModel", 703, "null", 53), ("TemplateHouseModel", 705, "format", 54), ("TemplateHouseModel", 707, "wrap", 55), ("TemplateHouseModel", 709, "anchor", 56), ("TemplateHouseModel", 1121, "keys", 57), ("TemplateHouseModel", 1126, "values", 58), ("TemplateHouseModel", 1177, "&amp;", 59), ("TemplateHouseModel", 1179, "&lt;", 60), ("TemplateHouseModel", 1181, "&gt;", 61), ("TemplateHouseModel", 1183, "&quot;", 62), ("TemplateHouseModel", 1219, "upper", 63), ("TemplateHouseModel", 1220, "lower", 64), ("TemplateHouseModel", 1221, "cap", 65), ("TemplateHouseModel", 1223, "xml", 66), ("TemplateHouseModel", 1225, "url", 67)]
def strL : List Nat := [10, 6, 19, 41, 4, 3, 5, 7, 4, 5, 5, 4, 4, 6, 4, 6, 24, 93, 3, 5, 34, 1, 10, 6, 7, 3, 4, 5, 1, 18, 3, 1, 1, 1, 1, 1, 1, 5, 4, 4, 5, 5, 7, 6, 6, 4, 2, 6, 4, 5, 5, 3, 9, 4, 6, 4, 6, 4, 6, 5, 4, 4, 6, 5, 5, 3, 3, 3]
/-- what of the constants is the heap's -/
def zNh (κ : Nat → Nat) (A : Nat → Prop) (U : State) (H : Heap) : Prop :=
  va_Z "TemplateHouse$Names" "TURN" "[B" (.ref (κ 0)) A U H ∧ va_T .byte (κ 0) 2 (fun j => .int (upd (upd (fun _ => 0) 0 105) 1 48 j)) A U H ∧ va_Z "java/lang/String" "COMPACT_STRINGS" "Z" (.int 1) A U H ∧
  (∀ (t n : Nat), strL[t]? = some n → zStr (κ (1 + 2 * t)) (κ (2 + 2 * t)) n A U H) ∧ vx_Zq Bundle.tN "UNASSIGNED_STACK" Bundle.steD A U H ∧ vx_Zq Bundle.tN "SUPPRESSED_SENTINEL" Bundle.listD A U H ∧ va_Zq "jdk/internal/util/Preconditions" "SIOOBE_FORMATTER" "Ljava/util/function/BiFunction;" A U H
def zisN : Cond → Bool
  | .fieldLinkNest .. => true
  | .methodLinkNest .. => true
  | .castable .. => true
  | .declares .. => true
  | _ => false
def zNest : List Cond := tables_1.filter zisN
theorem zinN {w : Cond} (i : Nat) (h : tables_1[i]? = some w) (g : zisN w = true) : w ∈ zNest := List.mem_filter.mpr ⟨List.mem_of_getElem? h, g⟩
theorem zwarmD {x : MethodName} {s U : State} (hW : s.WarmedH U.vm) (hZ : va_Nw (.declares x) s) : va_Nw (.declares x) U := va_tabs rfl (rfl : (s.setVm U.vm).vm = U.vm) (by rw [Cond.declares_setVm hW.alike]; exact hZ)
theorem zNest_warm {w : Cond} (hw : w ∈ zNest) {u U : State} (hW : u.WarmedH U.vm) (h : va_Nw w u) : va_Nw w U := by
  have hg := (List.mem_filter.mp hw).2
  cases w <;> first | exact va_Nw.warmF hW h | exact va_Nw.warmM hW h | exact va_Nw.warmC hW h | exact zwarmD hW h | exact absurd hg Bool.false_ne_true
theorem zNest_tables {w : Cond} (hw : w ∈ zNest) : w.onTables = true := by
  have hg := (List.mem_filter.mp hw).2
  cases w <;> first | rfl | exact absurd hg Bool.false_ne_true
/-- and what the machine's tables' -/
def zNt (κ : Nat → Nat) (U : State) : Prop :=
  va_AO "TemplateHouseModel$Group" U ∧ zAOA .byte U ∧ (∀ c ∈ strC, vk_R c.1 c.2.1 c.2.2.1 (κ (1 + 2 * c.2.2.2)) U) ∧ va_Nc "java/lang/IllegalStateException" "java/lang/IllegalArgumentException" U ∧ ∀ w ∈ zNest, va_Nw w U
theorem zNh.moved {κ : Nat → Nat} {A : Nat → Prop} {u U : State} {H : Heap} (hvm : u.vm.Alike U.vm) (h : zNh κ A u H) : zNh κ A U H := ⟨h.1.moved hvm, h.2.1.moved hvm, h.2.2.1.moved hvm, fun t n ht => (h.2.2.2.1 t n ht).moved hvm, h.2.2.2.2.1.moved hvm, h.2.2.2.2.2.1.moved hvm, va_Zq.moved hvm h.2.2.2.2.2.2⟩
theorem zNh.kept {κ : Nat → Nat} {A : Nat → Prop} {U : State} {H H1 : Heap} (h : zNh κ A U H) (hq : ∀ a : Nat, a < H.size → ¬ A a → H1[a]? = H[a]?) : zNh κ A U H1 := ⟨h.1.kept hq, h.2.1.kept hq, h.2.2.1.kept hq, fun t n ht => (h.2.2.2.1 t n ht).kept hq, h.2.2.2.2.1.kept hq, h.2.2.2.2.2.1.kept hq, va_Zq.kept h.2.2.2.2.2.2 hq⟩
theorem zNh.narrow {κ : Nat → Nat} {A B : Nat → Prop} {U : State} {H : Heap} (h : zNh κ A U H) (hAB : ∀ q, B q → A q) : zNh κ B U H := ⟨h.1.narrow hAB, h.2.1.narrow hAB, h.2.2.1.narrow hAB, fun t n ht => (h.2.2.2.1 t n ht).narrow hAB, h.2.2.2.2.1.narrow hAB, h.2.2.2.2.2.1.narrow hAB, va_Zq.narrow h.2.2.2.2.2.2 hAB⟩
theorem zAOA.moved {u U : State} (hvm : u.vm.Alike U.vm) (h : zAOA .byte u) : zAOA .byte U := Jvm.Stand.arrayOver_alikeB hvm h
theorem zNt.warm {κ : Nat → Nat} {u U : State} (hW : u.WarmedH U.vm) (h : zNt κ u) : zNt κ U := ⟨h.1.moved hW.alike, zAOA.moved hW.alike h.2.1, fun c hc => (h.2.2.1 c hc).warm hW, h.2.2.2.1.moved hW.alike, fun w hw => zNest_warm hw hW (h.2.2.2.2 w hw)⟩
theorem zNt.same {κ : Nat → Nat} {u U : State} (hv : U.vm = u.vm) (h : zNt κ u) : zNt κ U := ⟨h.1.moved (by rw [hv]; exact Vm.Alike.refl u.vm), zAOA.moved (by rw [hv]; exact Vm.Alike.refl u.vm) h.2.1, fun c hc => vk_R.same hv (h.2.2.1 c hc), h.2.2.2.1.moved (by rw [hv]; exact Vm.Alike.refl u.vm), fun w hw => va_Nw.same (zNest_tables hw) hv.symm (h.2.2.2.2 w hw)⟩
def zty (E : Nat → ClassId) : List (ClassId × FieldType) := [(E 0, .int), (E 1, .byte), (E 2, .long), (E 3, .boolean), (E 4, .array .byte), (E 5, .object "TemplateHouseModel$Group")]
abbrev zG : Type := va_G × (Nat → ClassId) × (Nat → Nat)
/-- what holds of the machine's classes and of the constants, seen from a method that may write A -/
def zK (G : zG) (A : Nat → Prop) (U : State) (H : Heap) : Prop := va_K G.1 zcl (zty G.2.1) U ∧ zNh G.2.2 A U H ∧ zNt G.2.2 U
theorem zK.warm {G : zG} {A : Nat → Prop} {u U : State} {H : Heap} (hW : u.WarmedH U.vm) (h : zK G A u H) : zK G A U H := ⟨va_K.moved hW.alike h.1, h.2.1.moved hW.alike, h.2.2.warm hW⟩
theorem zK.same {G : zG} {A : Nat → Prop} {u U : State} {H : Heap} (hv : U.vm = u.vm) (h : zK G A u H) : zK G A U H := ⟨va_K.moved (by rw [hv]; exact Vm.Alike.refl u.vm) h.1, h.2.1.moved (by rw [hv]; exact Vm.Alike.refl u.vm), h.2.2.same hv⟩
theorem zK.kept {G : zG} {A : Nat → Prop} {U : State} {H H1 : Heap} (h : zK G A U H) (hq : ∀ a : Nat, a < H.size → ¬ A a → H1[a]? = H[a]?) : zK G A U H1 := ⟨h.1, h.2.1.kept hq, h.2.2⟩
theorem zK.narrow {G : zG} {A B : Nat → Prop} {U : State} {H : Heap} (h : zK G A U H) (hAB : ∀ q, B q → A q) : zK G B U H := ⟨h.1, h.2.1.narrow hAB, h.2.2⟩
def zS : zX → zG → Nat → va_W → List (Nat × Value) → Nat → Nat → Nat → List Value → Prop := fun (p, l, e, R, s, m, args, below, meth, c, A, Q) G nL ws lv k n pc st =>
  ∀ (H : Heap) (locs : List Loc) (ls : Array Slot), va_P G.1 zcl ws H → va_D A ws → va_S A s.heap H locs → lv_has ls nL lv → W p l e R s m args below meth c H locs k n Q (F0 m pc ls st)
/-- the method at hand: its name, code, locals, room -/
def zC : zX → Launch → zG → MethodName → ByteArray → Nat → Nat → Nat → Nat → Nat → Prop := fun (p, l, e, R, s, m, args, below, meth, c, A, Q) l' G y cc nL fr lo mc ms =>
  l = l' ∧ R = { frames := fr, cells := mc, slots := ms, locals := lo } ∧ p.tables.exec = Jvm.exec ∧ c.code = cc ∧ c.maxLocals = nL ∧ s.vm.findClass y.cls = some m.cls ∧ (∀ w ∈ zT, w.before args s = true) ∧ meth.name = y.name ∧ (∀ q : Nat, s.heap.size ≤ q → A q) ∧ zK G A s s.heap
/-- a return: what is to be shown of the answer and of the world -/
def zRi : zX → zG → Nat → ByteArray → FieldType → Nat → Nat → (Int32 → va_W → Prop) → Prop := fun X G nL cc ty mc ms post =>
  ∀ (ws : va_W) (lv : List (Nat × Value)) (k n pc : Nat) (r : Int32), decode cc pc = .ok (.ireturn, 1) → narrow ty (.int r) = .int r → k ≤ mc → n ≤ ms → post r ws → zS X G nL ws lv k n pc [.int r]
def zRv : zX → zG → Nat → ByteArray → Nat → Nat → (va_W → Prop) → Prop := fun X G nL cc mc ms post =>
  ∀ (ws : va_W) (lv : List (Nat × Value)) (k n pc : Nat), decode cc pc = .ok (.return_, 1) → k ≤ mc → n ≤ ms → post ws → zS X G nL ws lv k n pc []
/-- contracts: from the world ws, with these arguments, the method answers r and leaves the world w, with post r w -/
def zPc (G : zG) (sz : Nat) (av : List Value) (ws : va_W) : Array Value → State → Prop := va_Pc av (fun U => U.heap.size = sz ∧ va_P G.1 zcl ws U.heap ∧ zK G (va_A ws sz) U U.heap ∧ va_D (fun _ => True) ws)
def zB (G : zG) (A : Nat → Prop) (w : va_W) (t : State) : Prop := va_P G.1 zcl w t.heap ∧ va_D A w
abbrev zWs (y : MethodName) (b : ByteArray) (nL : Nat) (ret : Option FieldType) : List Cond := .code y b nL ret :: zT
def zMi (l : Launch) (G : zG) (y : MethodName) (b : ByteArray) (nL : Nat) (ty : FieldType) (fr lo mc ms : Nat) (av : List Value) (ws : va_W) (post : Int32 → va_W → Prop) : Prop :=
  ∀ sz : Nat, Met l y (zWs y b nL (some ty)) { frames := fr, cells := mc, slots := ms, locals := lo } (zPc G sz av ws) (va_Qi post (zB G (va_A ws sz)) (va_A ws sz)) mc ms (va_A ws sz)
def zMv (l : Launch) (G : zG) (y : MethodName) (b : ByteArray) (nL : Nat) (fr lo mc ms : Nat) (av : List Value) (ws : va_W) (post : va_W → Prop) : Prop :=
  ∀ sz : Nat, Met l y (zWs y b nL none) { frames := fr, cells := mc, slots := ms, locals := lo } (zPc G sz av ws) (va_Qv post (zB G (va_A ws sz)) (va_A ws sz)) mc ms (va_A ws sz)
theorem zMi.intro {l : Launch} {G : zG} {y : MethodName} {b : ByteArray} {nL : Nat} {ty : FieldType} {fr lo mc ms : Nat} {av : List Value} {ws : va_W} {post : Int32 → va_W → Prop} (hy : plainName y.cls = true) (hav : (lg_sl av).length ≤ nL)
    (body : ∀ X : zX, zC X l G y b nL fr lo mc ms → zRi X G nL b ty mc ms post → zS X G nL ws (lv_args 0 av) 0 0 0 []) : zMi l G y b nL ty fr lo mc ms av ws post := by
  intro sz
  refine Met.ofW (cc := b) (maxL := nL) (ret := some ty) hy rfl ?_
  intro p e s m args below meth c s₁ B hml hv
  obtain ⟨rfl, hsz, hP, hK, hD0⟩ := hv
  subst hsz
  have hts := atoms_spec (ws := zWs y b nL (some ty)) B.pre
  have hlocks := B.notSynchronized
  have hC : zC (p, l, e, (headSpec (zWs y b nL (some ty)) { frames := fr, cells := mc, slots := ms, locals := lo }).room, s, m, av.toArray, below, meth, c, va_A ws s.heap.size, MQ below (va_Qi post (zB G (va_A ws s.heap.size)) (va_A ws s.heap.size)) av.toArray s mc ms (va_A ws s.heap.size)) l G y b nL fr lo mc ms :=
    ⟨rfl, rfl, B.exec, B.bytes, hml, findClass_of_methodNamed B.named, fun w hw => hts w (List.mem_cons_of_mem _ hw), (name_of_methodNamed B.named B.method).1, fun q h => Or.inr h, hK⟩
  have hR : zRi (p, l, e, (headSpec (zWs y b nL (some ty)) { frames := fr, cells := mc, slots := ms, locals := lo }).room, s, m, av.toArray, below, meth, c, va_A ws s.heap.size, MQ below (va_Qi post (zB G (va_A ws s.heap.size)) (va_A ws s.heap.size)) av.toArray s mc ms (va_A ws s.heap.size)) G nL b ty mc ms post := by
    intro w lv k n pc r hd hn hk hn2 hp H locs ls hP hD hS hl
    refine W.widen (k := mc) (n := ms) hk hn2 ?_
    exact W.zret (v := r) B.exec B.bytes B.returns hn (fun t ht hW => ⟨⟨r, w, rfl, hp, by rw [zB, ht]; exact ⟨hP, hD⟩⟩, hS.F ht⟩) hS.2.2 hd
  have hb := body _ hC hR s.heap [] ((lg_sl av ++ List.replicate (nL - (lg_sl av).length) Slot.unset).toArray) hP hD0.self va_S.rf (lv_entry av hav)
  rw [lg_entry_eq]
  exact hb
theorem zMv.intro {l : Launch} {G : zG} {y : MethodName} {b : ByteArray} {nL : Nat} {fr lo mc ms : Nat} {av : List Value} {ws : va_W} {post : va_W → Prop} (hy : plainName y.cls = true) (hav : (lg_sl av).length ≤ nL)
    (body : ∀ X : zX, zC X l G y b nL fr lo mc ms → zRv X G nL b mc ms post → zS X G nL ws (lv_args 0 av) 0 0 0 []) : zMv l G y b nL fr lo mc ms av ws post := by
  intro sz
  refine Met.ofW (cc := b) (maxL := nL) (ret := none) hy rfl ?_
  intro p e s m args below meth c s₁ B hml hv
  obtain ⟨rfl, hsz, hP, hK, hD0⟩ := hv
  subst hsz
  have hts := atoms_spec (ws := zWs y b nL none) B.pre
  have hlocks := B.notSynchronized
  have hC : zC (p, l, e, (headSpec (zWs y b nL none) { frames := fr, cells := mc, slots := ms, locals := lo }).room, s, m, av.toArray, below, meth, c, va_A ws s.heap.size, MQ below (va_Qv post (zB G (va_A ws s.heap.size)) (va_A ws s.heap.size)) av.toArray s mc ms (va_A ws s.heap.size)) l G y b nL fr lo mc ms :=
    ⟨rfl, rfl, B.exec, B.bytes, hml, findClass_of_methodNamed B.named, fun w hw => hts w (List.mem_cons_of_mem _ hw), (name_of_methodNamed B.named B.method).1, fun q h => Or.inr h, hK⟩
  have hR : zRv (p, l, e, (headSpec (zWs y b nL none) { frames := fr, cells := mc, slots := ms, locals := lo }).room, s, m, av.toArray, below, meth, c, va_A ws s.heap.size, MQ below (va_Qv post (zB G (va_A ws s.heap.size)) (va_A ws s.heap.size)) av.toArray s mc ms (va_A ws s.heap.size)) G nL b mc ms post := by
    intro w lv k n pc hd hk hn2 hp H locs ls hP hD hS hl
    refine W.widen (k := mc) (n := ms) hk hn2 ?_
    exact W.vret B.exec B.bytes B.returns (fun t ht hW => ⟨⟨w, rfl, hp, by rw [zB, ht]; exact ⟨hP, hD⟩⟩, hS.F ht⟩) hS.2.2 hd
  have hb := body _ hC hR s.heap [] ((lg_sl av ++ List.replicate (nL - (lg_sl av).length) Slot.unset).toArray) hP hD0.self va_S.rf (lv_entry av hav)
  rw [lg_entry_eq]
  exact hb
theorem zwA0 : Cond.arrayClass Jvm.ClassFile.FieldType.int ∈ zT := zin 406 (by decide +kernel) (by decide +kernel)
theorem zwA1 : Cond.arrayClass Jvm.ClassFile.FieldType.byte ∈ zT := zin 405 (by decide +kernel) (by decide +kernel)
theorem zwA2 : Cond.arrayClass Jvm.ClassFile.FieldType.long ∈ zT := zin 407 (by decide +kernel) (by decide +kernel)
theorem zwA3 : Cond.arrayClass Jvm.ClassFile.FieldType.boolean ∈ zT := zin 2763 (by decide +kernel) (by decide +kernel)
theorem zwO1 : Cond.instanceMethod objectInit ∈ zT := zin 335 (by decide +kernel) (by decide +kernel)
theorem zwO2 : Cond.code objectInit ⟨#[0xb1]⟩ 1 none ∈ zT := zin 336 (by decide +kernel) (by decide +kernel)
