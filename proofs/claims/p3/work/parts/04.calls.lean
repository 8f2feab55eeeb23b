theorem zsubP {D : va_G} {cl : List vw_C} {ws wc : va_W} {H : Heap} {is : List Nat} (hP : va_P D cl ws H) (h : is.map (fun i => ws[i]?) = wc.map some) : va_P D cl wc H := by
  intro k q hq
  have h1 : (is.map (fun i => ws[i]?))[k]? = some (some q) := by rw [h, List.getElem?_map, hq]; rfl
  rw [List.getElem?_map] at h1
  cases hi : is[k]? with
  | none => rw [hi] at h1; cases h1
  | some i => rw [hi] at h1; exact hP i q (Option.some.inj h1)
theorem znd : ∀ (a b : List Nat), va_nd (a ++ b) = true → va_nd a = true ∧ va_nd b = true ∧ ∀ i ∈ b, i ∉ a
  | [], b, h => ⟨rfl, h, fun _ _ q => by cases q⟩
  | x :: a, b, h => by
    have h' : (decide (x ∉ a ++ b) && va_nd (a ++ b)) = true := h
    simp only [Bool.and_eq_true, decide_eq_true_eq] at h'
    obtain ⟨h1, h2⟩ := h'
    obtain ⟨g1, g2, g3⟩ := znd a b h2
    refine ⟨?_, g2, fun i hi q => ?_⟩
    · show (decide (x ∉ a) && va_nd a) = true
      simp only [Bool.and_eq_true, decide_eq_true_eq]
      exact ⟨fun q => h1 (List.mem_append_left _ q), g1⟩
    · rcases List.mem_cons.mp q with rfl | q
      · exact h1 (List.mem_append_right _ hi)
      · exact g3 i hi q
/-- a method by its name: it isn't a handle's, its number of parameters, its code's place in the tables -/
def zDe (y : MethodName) (b : ByteArray) (nL : Nat) (ret : Option FieldType) (na : Nat) : Prop := (y.cls ≠ "java/lang/invoke/MethodHandle" ∧ y.cls ≠ "java/lang/invoke/VarHandle" ∧ (parseMethodDescriptor y.desc).map (fun d => d.parameters.length) = some na) ∧ Cond.code y b nL ret ∈ zT ∧ Cond.initialized y.cls ∈ zT
def zDv (y : MethodName) (b : ByteArray) (nL : Nat) (ret : Option FieldType) (na : Nat) : Prop := zDe y b nL ret na ∧ Cond.instanceMethod y ∈ zT ∧ Cond.selects y.cls y y ∈ zT
def zDs (y : MethodName) (b : ByteArray) (nL : Nat) (ret : Option FieldType) (na : Nat) : Prop := zDe y b nL ret na ∧ Cond.static y ∈ zT
def zDi (y : MethodName) (b : ByteArray) (nL na : Nat) : Prop := zDe y b nL none na ∧ y.name = "<init>" ∧ Cond.instanceMethod y ∈ zT
theorem zDe.good {y : MethodName} {b : ByteArray} {nL : Nat} {ret : Option FieldType} {na : Nat} (h : zDe y b nL ret na) : GoodIn zT (zWs y b nL ret) := zGood (fun w hw => by
  rcases List.mem_cons.mp hw with rfl | hw
  · exact h.2.1
  · exact hw)
theorem zDv.good {y : MethodName} {b : ByteArray} {nL : Nat} {ret : Option FieldType} {na : Nat} (h : zDv y b nL ret na) {own : String} {idx : Nat} (hl : Cond.methodLink own idx y ∈ zT) : GoodIn zT (wsV own idx y.cls y (zWs y b nL ret)) := zGood (fun w hw => by
  rcases List.mem_append.mp hw with hw | hw
  · simp only [List.mem_cons, List.not_mem_nil, or_false] at hw
    rcases hw with rfl | rfl | rfl | rfl
    · exact hl
    · exact h.2.1
    · exact h.2.2
    · exact h.1.2.2
  · exact (zDe.good h.1 w hw).1)
theorem zDs.good {y : MethodName} {b : ByteArray} {nL : Nat} {ret : Option FieldType} {na : Nat} (h : zDs y b nL ret na) {own : String} {idx : Nat} (hl : Cond.methodLink own idx y ∈ zT) : GoodIn zT (va_wsS own idx y (zWs y b nL ret)) := zGood (fun w hw => by
  rcases List.mem_append.mp hw with hw | hw
  · simp only [List.mem_cons, List.not_mem_nil, or_false] at hw
    rcases hw with rfl | rfl | rfl
    · exact hl
    · exact h.2
    · exact h.1.2.2
  · exact (zDe.good h.1 w hw).1)
theorem zPc.blind {G : zG} {sz : Nat} {av : List Value} {ws : va_W} : FrameBlind (zPc G sz av ws) := fun a U g mk q => by
  obtain ⟨q0, q1, qP, qK, qD⟩ := q
  exact ⟨q0, q1, qP, zK.same (u := U) (U := U.calling g mk a) rfl qK, qD⟩
theorem zPc.pre {G : zG} {A : Nat → Prop} {s U : State} {H : Heap} {locs : List Loc} {ws wc : va_W} {av : List Value} (hK : zK G A s s.heap) (hS : va_S A s.heap H locs) (hF : ∀ q, va_A wc H.size q → A q) (hP : va_P G.1 zcl wc H) (hD : va_D A wc) (hU : U.heap = H) (hW : s.WarmedH U.vm) : zPc G H.size av wc av.toArray U := by
  subst hU
  exact ⟨rfl, rfl, hP, ((hK.kept (fun q h1 h2 => hS.2.1 q h1 h2)).narrow hF).warm hW, hD.weaken (fun _ _ _ _ => trivial)⟩

section ZCALL
variable {X : zX} {l : Launch} {G : zG} {y : MethodName} {cc : ByteArray} {nL fr lo mc ms : Nat} {ws : va_W} {lv : List (Nat × Value)} {k n pc : Nat} {st stk : List Value}
variable {y' : MethodName} {b' : ByteArray} {nL' fr' lo' mc' ms' na idx : Nat} {wc wr : va_W} {ty : FieldType}

theorem z_callVi (hC : zC X l G y cc nL fr lo mc ms) {a : Nat} {As : List Value} {post : Int32 → va_W → Prop} (hM : zMi l G y' b' nL' ty fr' lo' mc' ms' (.ref a :: As) wc post) (hDe : zDv y' b' nL' (some ty) na) {ci N : Nat} {T : u_T} {tyf : Nat → FieldType} {fs : List Value} (hF : zF ci y'.cls T N tyf) (qr : Nat) (hrec : wc[qr]? = some (a, .inr (ci, fs))) (isC isR : List Nat) (hIC : isC.map (fun i => ws[i]?) = wc.map some) (hIR : isR.map (fun i => ws[i]?) = wr.map some) (hnd : va_nd (isC ++ isR) = true) (hd : decode cc pc = .ok (.invokevirtual idx, 3)) (hw : Cond.methodLink y.cls idx y' ∈ zT) (hst : stk = As.reverse ++ .ref a :: st) (hna : As.length = na) (hk : k + mc' ≤ mc) (hn : n + ms' ≤ ms) (hfr : fr' + 1 ≤ fr) (hlo : 8 + (nL' + 11) + lo' ≤ lo) (hm : (st.map fun v => v.category).sum ≤ 8) (kk : ∀ r w, post r w → zS X G nL (wr ++ w) lv (k + mc') (n + ms') (pc + 3) (.int r :: st)) : zS X G nL ws lv k n pc stk := by
  obtain ⟨p, l', e, R, s, m, args, below, meth, c, A, Q⟩ := X
  obtain ⟨rfl, rfl, hx, hb, hml, hown, hts, hnm, hA, hK⟩ := hC
  intro H locs ls hP hD hS hl
  obtain ⟨hn1, hn2, hn3⟩ := znd isC isR hnd
  have hPc := zsubP hP hIC
  have hDc := hD.sub isC hn1 hIC
  have hFc := va_free hD hS hA isC hIC
  refine va_calli (va_runV (As := As) (rest := st) ⟨hx, hb, hml, hown, hts⟩ (hM H.size) (cwV na hts (zDv.good hDe hw) rfl rfl rfl ⟨rfl, hDe.1.1.1, hDe.1.1.2.1, hDe.1.1.2.2⟩ ⟨hfr, hlo⟩) ⟨zPc.blind, va_recv (hK.1.sub [] rfl) hPc hF.1 hrec, fun U hU hW => zPc.pre (ws := ws) hK hS hFc hPc hDc hU hW⟩ rfl hna hl.1 hst (lv_room hm) hd ⟨hk, hn⟩) hS (fun q _ h => hFc q h) hFc (fun r w t H1 locs1 ht hvm hp hB hz1 hk1 hS1 => ?_)
  obtain ⟨hP1, hD1⟩ := hB
  rw [ht] at hP1
  obtain ⟨hP', hD'⟩ := va_join hP hD isC isR hIC hIR hn2 hn3 hk1 hFc hP1 hD1
  exact kk r w hp H1 locs1 ls hP' hD' hS1 hl

theorem z_callVv (hC : zC X l G y cc nL fr lo mc ms) {a : Nat} {As : List Value} {post : va_W → Prop} (hM : zMv l G y' b' nL' fr' lo' mc' ms' (.ref a :: As) wc post) (hDe : zDv y' b' nL' none na) {ci N : Nat} {T : u_T} {tyf : Nat → FieldType} {fs : List Value} (hF : zF ci y'.cls T N tyf) (qr : Nat) (hrec : wc[qr]? = some (a, .inr (ci, fs))) (isC isR : List Nat) (hIC : isC.map (fun i => ws[i]?) = wc.map some) (hIR : isR.map (fun i => ws[i]?) = wr.map some) (hnd : va_nd (isC ++ isR) = true) (hd : decode cc pc = .ok (.invokevirtual idx, 3)) (hw : Cond.methodLink y.cls idx y' ∈ zT) (hst : stk = As.reverse ++ .ref a :: st) (hna : As.length = na) (hk : k + mc' ≤ mc) (hn : n + ms' ≤ ms) (hfr : fr' + 1 ≤ fr) (hlo : 8 + (nL' + 11) + lo' ≤ lo) (hm : (st.map fun v => v.category).sum ≤ 8) (kk : ∀ w, post w → zS X G nL (wr ++ w) lv (k + mc') (n + ms') (pc + 3) st) : zS X G nL ws lv k n pc stk := by
  obtain ⟨p, l', e, R, s, m, args, below, meth, c, A, Q⟩ := X
  obtain ⟨rfl, rfl, hx, hb, hml, hown, hts, hnm, hA, hK⟩ := hC
  intro H locs ls hP hD hS hl
  obtain ⟨hn1, hn2, hn3⟩ := znd isC isR hnd
  have hPc := zsubP hP hIC
  have hDc := hD.sub isC hn1 hIC
  have hFc := va_free hD hS hA isC hIC
  refine va_callv (va_runV (As := As) (rest := st) ⟨hx, hb, hml, hown, hts⟩ (hM H.size) (cwV na hts (zDv.good hDe hw) rfl rfl rfl ⟨rfl, hDe.1.1.1, hDe.1.1.2.1, hDe.1.1.2.2⟩ ⟨hfr, hlo⟩) ⟨zPc.blind, va_recv (hK.1.sub [] rfl) hPc hF.1 hrec, fun U hU hW => zPc.pre (ws := ws) hK hS hFc hPc hDc hU hW⟩ rfl hna hl.1 hst (lv_room hm) hd ⟨hk, hn⟩) hS (fun q _ h => hFc q h) hFc (fun w t H1 locs1 ht hvm hp hB hz1 hk1 hS1 => ?_)
  obtain ⟨hP1, hD1⟩ := hB
  rw [ht] at hP1
  obtain ⟨hP', hD'⟩ := va_join hP hD isC isR hIC hIR hn2 hn3 hk1 hFc hP1 hD1
  exact kk w hp H1 locs1 ls hP' hD' hS1 hl

theorem z_callVNi (hC : zC X l G y cc nL fr lo mc ms) {a : Nat} {As : List Value} {post : Int32 → va_W → Prop} {host : String} (hM : zMi l G y' b' nL' ty fr' lo' mc' ms' (.ref a :: As) wc post) (hDe : zDv y' b' nL' (some ty) na) {ci N : Nat} {T : u_T} {tyf : Nat → FieldType} {fs : List Value} (hF : zF ci y'.cls T N tyf) (qr : Nat) (hrec : wc[qr]? = some (a, .inr (ci, fs))) (isC isR : List Nat) (hIC : isC.map (fun i => ws[i]?) = wc.map some) (hIR : isR.map (fun i => ws[i]?) = wr.map some) (hnd : va_nd (isC ++ isR) = true) (hd : decode cc pc = .ok (.invokevirtual idx, 3)) (hw : Cond.methodLinkNest y.cls idx y' host ∈ zNest) (hst : stk = As.reverse ++ .ref a :: st) (hna : As.length = na) (hk : k + mc' ≤ mc) (hn : n + ms' ≤ ms) (hfr : fr' + 1 ≤ fr) (hlo : 8 + (nL' + 11) + lo' ≤ lo) (hm : (st.map fun v => v.category).sum ≤ 8) (kk : ∀ r w, post r w → zS X G nL (wr ++ w) lv (k + mc') (n + ms') (pc + 3) (.int r :: st)) : zS X G nL ws lv k n pc stk := by
  obtain ⟨p, l', e, R, s, m, args, below, meth, c, A, Q⟩ := X
  obtain ⟨rfl, rfl, hx, hb, hml, hown, hts, hnm, hA, hK⟩ := hC
  intro H locs ls hP hD hS hl
  obtain ⟨hn1, hn2, hn3⟩ := znd isC isR hnd
  have hPc := zsubP hP hIC
  have hDc := hD.sub isC hn1 hIC
  have hFc := va_free hD hS hA isC hIC
  refine va_calli (va_runVN (As := As) (rest := st) ⟨hx, hb, hml, hown, hts⟩ (hM H.size) ⟨va_cnB na hts (zDe.good hDe.1) rfl rfl rfl (hK.2.2.2.2.2.2 _ hw) (hts _ hDe.1.2.2) hDe.1.1 ⟨hfr, hlo⟩, hts _ hDe.2.1, hts _ hDe.2.2⟩ ⟨zPc.blind, va_recv (hK.1.sub [] rfl) hPc hF.1 hrec, fun U hU hW => zPc.pre (ws := ws) hK hS hFc hPc hDc hU hW⟩ rfl hna hl.1 hst (lv_room hm) hd ⟨hk, hn⟩) hS (fun q _ h => hFc q h) hFc (fun r w t H1 locs1 ht hvm hp hB hz1 hk1 hS1 => ?_)
  obtain ⟨hP1, hD1⟩ := hB
  rw [ht] at hP1
  obtain ⟨hP', hD'⟩ := va_join hP hD isC isR hIC hIR hn2 hn3 hk1 hFc hP1 hD1
  exact kk r w hp H1 locs1 ls hP' hD' hS1 hl

theorem z_callVNv (hC : zC X l G y cc nL fr lo mc ms) {a : Nat} {As : List Value} {post : va_W → Prop} {host : String} (hM : zMv l G y' b' nL' fr' lo' mc' ms' (.ref a :: As) wc post) (hDe : zDv y' b' nL' none na) {ci N : Nat} {T : u_T} {tyf : Nat → FieldType} {fs : List Value} (hF : zF ci y'.cls T N tyf) (qr : Nat) (hrec : wc[qr]? = some (a, .inr (ci, fs))) (isC isR : List Nat) (hIC : isC.map (fun i => ws[i]?) = wc.map some) (hIR : isR.map (fun i => ws[i]?) = wr.map some) (hnd : va_nd (isC ++ isR) = true) (hd : decode cc pc = .ok (.invokevirtual idx, 3)) (hw : Cond.methodLinkNest y.cls idx y' host ∈ zNest) (hst : stk = As.reverse ++ .ref a :: st) (hna : As.length = na) (hk : k + mc' ≤ mc) (hn : n + ms' ≤ ms) (hfr : fr' + 1 ≤ fr) (hlo : 8 + (nL' + 11) + lo' ≤ lo) (hm : (st.map fun v => v.category).sum ≤ 8) (kk : ∀ w, post w → zS X G nL (wr ++ w) lv (k + mc') (n + ms') (pc + 3) st) : zS X G nL ws lv k n pc stk := by
  obtain ⟨p, l', e, R, s, m, args, below, meth, c, A, Q⟩ := X
  obtain ⟨rfl, rfl, hx, hb, hml, hown, hts, hnm, hA, hK⟩ := hC
  intro H locs ls hP hD hS hl
  obtain ⟨hn1, hn2, hn3⟩ := znd isC isR hnd
  have hPc := zsubP hP hIC
  have hDc := hD.sub isC hn1 hIC
  have hFc := va_free hD hS hA isC hIC
  refine va_callv (va_runVN (As := As) (rest := st) ⟨hx, hb, hml, hown, hts⟩ (hM H.size) ⟨va_cnB na hts (zDe.good hDe.1) rfl rfl rfl (hK.2.2.2.2.2.2 _ hw) (hts _ hDe.1.2.2) hDe.1.1 ⟨hfr, hlo⟩, hts _ hDe.2.1, hts _ hDe.2.2⟩ ⟨zPc.blind, va_recv (hK.1.sub [] rfl) hPc hF.1 hrec, fun U hU hW => zPc.pre (ws := ws) hK hS hFc hPc hDc hU hW⟩ rfl hna hl.1 hst (lv_room hm) hd ⟨hk, hn⟩) hS (fun q _ h => hFc q h) hFc (fun w t H1 locs1 ht hvm hp hB hz1 hk1 hS1 => ?_)
  obtain ⟨hP1, hD1⟩ := hB
  rw [ht] at hP1
  obtain ⟨hP', hD'⟩ := va_join hP hD isC isR hIC hIR hn2 hn3 hk1 hFc hP1 hD1
  exact kk w hp H1 locs1 ls hP' hD' hS1 hl

theorem z_callSi (hC : zC X l G y cc nL fr lo mc ms) {As : List Value} {post : Int32 → va_W → Prop} (hM : zMi l G y' b' nL' ty fr' lo' mc' ms' As wc post) (hDe : zDs y' b' nL' (some ty) na) (isC isR : List Nat) (hIC : isC.map (fun i => ws[i]?) = wc.map some) (hIR : isR.map (fun i => ws[i]?) = wr.map some) (hnd : va_nd (isC ++ isR) = true) (hd : decode cc pc = .ok (.invokestatic idx, 3)) (hw : Cond.methodLink y.cls idx y' ∈ zT) (hst : stk = As.reverse ++ st) (hna : As.length = na) (hk : k + mc' ≤ mc) (hn : n + ms' ≤ ms) (hfr : fr' + 1 ≤ fr) (hlo : 8 + (nL' + 11) + lo' ≤ lo) (hm : (st.map fun v => v.category).sum ≤ 8) (kk : ∀ r w, post r w → zS X G nL (wr ++ w) lv (k + mc') (n + ms') (pc + 3) (.int r :: st)) : zS X G nL ws lv k n pc stk := by
  obtain ⟨p, l', e, R, s, m, args, below, meth, c, A, Q⟩ := X
  obtain ⟨rfl, rfl, hx, hb, hml, hown, hts, hnm, hA, hK⟩ := hC
  intro H locs ls hP hD hS hl
  obtain ⟨hn1, hn2, hn3⟩ := znd isC isR hnd
  have hPc := zsubP hP hIC
  have hDc := hD.sub isC hn1 hIC
  have hFc := va_free hD hS hA isC hIC
  refine va_calli (va_runS (As := As) (rest := st) ⟨hx, hb, hml, hown, hts⟩ (hM H.size) (va_cwS na hts (zDs.good hDe hw) rfl rfl rfl ⟨hDe.1.1.1, hDe.1.1.2.1, hDe.1.1.2.2⟩ ⟨hfr, hlo⟩) ⟨zPc.blind, fun U hU hW => zPc.pre (ws := ws) hK hS hFc hPc hDc hU hW⟩ rfl hna hl.1 hst (lv_room hm) hd ⟨hk, hn⟩) hS (fun q _ h => hFc q h) hFc (fun r w t H1 locs1 ht hvm hp hB hz1 hk1 hS1 => ?_)
  obtain ⟨hP1, hD1⟩ := hB
  rw [ht] at hP1
  obtain ⟨hP', hD'⟩ := va_join hP hD isC isR hIC hIR hn2 hn3 hk1 hFc hP1 hD1
  exact kk r w hp H1 locs1 ls hP' hD' hS1 hl

theorem z_callSv (hC : zC X l G y cc nL fr lo mc ms) {As : List Value} {post : va_W → Prop} (hM : zMv l G y' b' nL' fr' lo' mc' ms' As wc post) (hDe : zDs y' b' nL' none na) (isC isR : List Nat) (hIC : isC.map (fun i => ws[i]?) = wc.map some) (hIR : isR.map (fun i => ws[i]?) = wr.map some) (hnd : va_nd (isC ++ isR) = true) (hd : decode cc pc = .ok (.invokestatic idx, 3)) (hw : Cond.methodLink y.cls idx y' ∈ zT) (hst : stk = As.reverse ++ st) (hna : As.length = na) (hk : k + mc' ≤ mc) (hn : n + ms' ≤ ms) (hfr : fr' + 1 ≤ fr) (hlo : 8 + (nL' + 11) + lo' ≤ lo) (hm : (st.map fun v => v.category).sum ≤ 8) (kk : ∀ w, post w → zS X G nL (wr ++ w) lv (k + mc') (n + ms') (pc + 3) st) : zS X G nL ws lv k n pc stk := by
  obtain ⟨p, l', e, R, s, m, args, below, meth, c, A, Q⟩ := X
  obtain ⟨rfl, rfl, hx, hb, hml, hown, hts, hnm, hA, hK⟩ := hC
  intro H locs ls hP hD hS hl
  obtain ⟨hn1, hn2, hn3⟩ := znd isC isR hnd
  have hPc := zsubP hP hIC
  have hDc := hD.sub isC hn1 hIC
  have hFc := va_free hD hS hA isC hIC
  refine va_callv (va_runS (As := As) (rest := st) ⟨hx, hb, hml, hown, hts⟩ (hM H.size) (va_cwS na hts (zDs.good hDe hw) rfl rfl rfl ⟨hDe.1.1.1, hDe.1.1.2.1, hDe.1.1.2.2⟩ ⟨hfr, hlo⟩) ⟨zPc.blind, fun U hU hW => zPc.pre (ws := ws) hK hS hFc hPc hDc hU hW⟩ rfl hna hl.1 hst (lv_room hm) hd ⟨hk, hn⟩) hS (fun q _ h => hFc q h) hFc (fun w t H1 locs1 ht hvm hp hB hz1 hk1 hS1 => ?_)
  obtain ⟨hP1, hD1⟩ := hB
  rw [ht] at hP1
  obtain ⟨hP', hD'⟩ := va_join hP hD isC isR hIC hIR hn2 hn3 hk1 hFc hP1 hD1
  exact kk w hp H1 locs1 ls hP' hD' hS1 hl

theorem z_callSNi (hC : zC X l G y cc nL fr lo mc ms) {As : List Value} {post : Int32 → va_W → Prop} {host : String} (hM : zMi l G y' b' nL' ty fr' lo' mc' ms' As wc post) (hDe : zDs y' b' nL' (some ty) na) (isC isR : List Nat) (hIC : isC.map (fun i => ws[i]?) = wc.map some) (hIR : isR.map (fun i => ws[i]?) = wr.map some) (hnd : va_nd (isC ++ isR) = true) (hd : decode cc pc = .ok (.invokestatic idx, 3)) (hw : Cond.methodLinkNest y.cls idx y' host ∈ zNest) (hst : stk = As.reverse ++ st) (hna : As.length = na) (hk : k + mc' ≤ mc) (hn : n + ms' ≤ ms) (hfr : fr' + 1 ≤ fr) (hlo : 8 + (nL' + 11) + lo' ≤ lo) (hm : (st.map fun v => v.category).sum ≤ 8) (kk : ∀ r w, post r w → zS X G nL (wr ++ w) lv (k + mc') (n + ms') (pc + 3) (.int r :: st)) : zS X G nL ws lv k n pc stk := by
  obtain ⟨p, l', e, R, s, m, args, below, meth, c, A, Q⟩ := X
  obtain ⟨rfl, rfl, hx, hb, hml, hown, hts, hnm, hA, hK⟩ := hC
  intro H locs ls hP hD hS hl
  obtain ⟨hn1, hn2, hn3⟩ := znd isC isR hnd
  have hPc := zsubP hP hIC
  have hDc := hD.sub isC hn1 hIC
  have hFc := va_free hD hS hA isC hIC
  refine va_calli (va_runSN (As := As) (rest := st) ⟨hx, hb, hml, hown, hts⟩ (hM H.size) ⟨va_cnB na hts (zDe.good hDe.1) rfl rfl rfl (hK.2.2.2.2.2.2 _ hw) (hts _ hDe.1.2.2) hDe.1.1 ⟨hfr, hlo⟩, hts _ hDe.2, trivial⟩ ⟨zPc.blind, fun U hU hW => zPc.pre (ws := ws) hK hS hFc hPc hDc hU hW⟩ rfl hna hl.1 hst (lv_room hm) hd ⟨hk, hn⟩) hS (fun q _ h => hFc q h) hFc (fun r w t H1 locs1 ht hvm hp hB hz1 hk1 hS1 => ?_)
  obtain ⟨hP1, hD1⟩ := hB
  rw [ht] at hP1
  obtain ⟨hP', hD'⟩ := va_join hP hD isC isR hIC hIR hn2 hn3 hk1 hFc hP1 hD1
  exact kk r w hp H1 locs1 ls hP' hD' hS1 hl

theorem z_callSNv (hC : zC X l G y cc nL fr lo mc ms) {As : List Value} {post : va_W → Prop} {host : String} (hM : zMv l G y' b' nL' fr' lo' mc' ms' As wc post) (hDe : zDs y' b' nL' none na) (isC isR : List Nat) (hIC : isC.map (fun i => ws[i]?) = wc.map some) (hIR : isR.map (fun i => ws[i]?) = wr.map some) (hnd : va_nd (isC ++ isR) = true) (hd : decode cc pc = .ok (.invokestatic idx, 3)) (hw : Cond.methodLinkNest y.cls idx y' host ∈ zNest) (hst : stk = As.reverse ++ st) (hna : As.length = na) (hk : k + mc' ≤ mc) (hn : n + ms' ≤ ms) (hfr : fr' + 1 ≤ fr) (hlo : 8 + (nL' + 11) + lo' ≤ lo) (hm : (st.map fun v => v.category).sum ≤ 8) (kk : ∀ w, post w → zS X G nL (wr ++ w) lv (k + mc') (n + ms') (pc + 3) st) : zS X G nL ws lv k n pc stk := by
  obtain ⟨p, l', e, R, s, m, args, below, meth, c, A, Q⟩ := X
  obtain ⟨rfl, rfl, hx, hb, hml, hown, hts, hnm, hA, hK⟩ := hC
  intro H locs ls hP hD hS hl
  obtain ⟨hn1, hn2, hn3⟩ := znd isC isR hnd
  have hPc := zsubP hP hIC
  have hDc := hD.sub isC hn1 hIC
  have hFc := va_free hD hS hA isC hIC
  refine va_callv (va_runSN (As := As) (rest := st) ⟨hx, hb, hml, hown, hts⟩ (hM H.size) ⟨va_cnB na hts (zDe.good hDe.1) rfl rfl rfl (hK.2.2.2.2.2.2 _ hw) (hts _ hDe.1.2.2) hDe.1.1 ⟨hfr, hlo⟩, hts _ hDe.2, trivial⟩ ⟨zPc.blind, fun U hU hW => zPc.pre (ws := ws) hK hS hFc hPc hDc hU hW⟩ rfl hna hl.1 hst (lv_room hm) hd ⟨hk, hn⟩) hS (fun q _ h => hFc q h) hFc (fun w t H1 locs1 ht hvm hp hB hz1 hk1 hS1 => ?_)
  obtain ⟨hP1, hD1⟩ := hB
  rw [ht] at hP1
  obtain ⟨hP', hD'⟩ := va_join hP hD isC isR hIC hIR hn2 hn3 hk1 hFc hP1 hD1
  exact kk w hp H1 locs1 ls hP' hD' hS1 hl

theorem z_callI (hC : zC X l G y cc nL fr lo mc ms) {a : Nat} {As : List Value} {post : va_W → Prop} (hM : zMv l G y' b' nL' fr' lo' mc' ms' (.ref a :: As) wc post) (hDe : zDi y' b' nL' na) (isC isR : List Nat) (hIC : isC.map (fun i => ws[i]?) = wc.map some) (hIR : isR.map (fun i => ws[i]?) = wr.map some) (hnd : va_nd (isC ++ isR) = true) (hd : decode cc pc = .ok (.invokespecial idx, 3)) (hw : Cond.methodLink y.cls idx y' ∈ zT) (hst : stk = As.reverse ++ .ref a :: st) (hna : As.length = na) (hk : k + mc' ≤ mc) (hn : n + ms' ≤ ms) (hfr : fr' + 1 ≤ fr) (hlo : 8 + (nL' + 11) + lo' ≤ lo) (hm : (st.map fun v => v.category).sum ≤ 8) (kk : ∀ w, post w → zS X G nL (wr ++ w) lv (k + mc') (n + ms') (pc + 3) st) : zS X G nL ws lv k n pc stk := by
  obtain ⟨p, l', e, R, s, m, args, below, meth, c, A, Q⟩ := X
  obtain ⟨rfl, rfl, hx, hb, hml, hown, hts, hnm, hA, hK⟩ := hC
  intro H locs ls hP hD hS hl
  obtain ⟨hn1, hn2, hn3⟩ := znd isC isR hnd
  have hPc := zsubP hP hIC
  have hDc := hD.sub isC hn1 hIC
  have hFc := va_free hD hS hA isC hIC
  refine va_callv (va_runI (As := As) (rest := st) ⟨hx, hb, hml, hown, hts⟩ (hM H.size) (cwI na hts (zDe.good hDe.1) rfl rfl rfl (hts _ hDe.1.2.2) (hts _ hw) (hts _ hDe.2.2) hDe.2.1 hDe.1.1 ⟨hfr, hlo⟩) ⟨zPc.blind, fun U hU hW => zPc.pre (ws := ws) hK hS hFc hPc hDc hU hW⟩ rfl hna hl.1 hst (lv_room hm) hd ⟨hk, hn⟩) hS (fun q _ h => hFc q h) hFc (fun w t H1 locs1 ht hvm hp hB hz1 hk1 hS1 => ?_)
  obtain ⟨hP1, hD1⟩ := hB
  rw [ht] at hP1
  obtain ⟨hP', hD'⟩ := va_join hP hD isC isR hIC hIR hn2 hn3 hk1 hFc hP1 hD1
  exact kk w hp H1 locs1 ls hP' hD' hS1 hl

theorem z_callIN (hC : zC X l G y cc nL fr lo mc ms) {a : Nat} {As : List Value} {post : va_W → Prop} {host : String} (hM : zMv l G y' b' nL' fr' lo' mc' ms' (.ref a :: As) wc post) (hDe : zDi y' b' nL' na) (isC isR : List Nat) (hIC : isC.map (fun i => ws[i]?) = wc.map some) (hIR : isR.map (fun i => ws[i]?) = wr.map some) (hnd : va_nd (isC ++ isR) = true) (hd : decode cc pc = .ok (.invokespecial idx, 3)) (hw : Cond.methodLinkNest y.cls idx y' host ∈ zNest) (hst : stk = As.reverse ++ .ref a :: st) (hna : As.length = na) (hk : k + mc' ≤ mc) (hn : n + ms' ≤ ms) (hfr : fr' + 1 ≤ fr) (hlo : 8 + (nL' + 11) + lo' ≤ lo) (hm : (st.map fun v => v.category).sum ≤ 8) (kk : ∀ w, post w → zS X G nL (wr ++ w) lv (k + mc') (n + ms') (pc + 3) st) : zS X G nL ws lv k n pc stk := by
  obtain ⟨p, l', e, R, s, m, args, below, meth, c, A, Q⟩ := X
  obtain ⟨rfl, rfl, hx, hb, hml, hown, hts, hnm, hA, hK⟩ := hC
  intro H locs ls hP hD hS hl
  obtain ⟨hn1, hn2, hn3⟩ := znd isC isR hnd
  have hPc := zsubP hP hIC
  have hDc := hD.sub isC hn1 hIC
  have hFc := va_free hD hS hA isC hIC
  refine va_callv (va_runIN (As := As) (rest := st) ⟨hx, hb, hml, hown, hts⟩ (hM H.size) ⟨va_cnB na hts (zDe.good hDe.1) rfl rfl rfl (hK.2.2.2.2.2.2 _ hw) (hts _ hDe.1.2.2) hDe.1.1 ⟨hfr, hlo⟩, hDe.2.1, hts _ hDe.2.2⟩ ⟨zPc.blind, fun U hU hW => zPc.pre (ws := ws) hK hS hFc hPc hDc hU hW⟩ rfl hna hl.1 hst (lv_room hm) hd ⟨hk, hn⟩) hS (fun q _ h => hFc q h) hFc (fun w t H1 locs1 ht hvm hp hB hz1 hk1 hS1 => ?_)
  obtain ⟨hP1, hD1⟩ := hB
  rw [ht] at hP1
  obtain ⟨hP', hD'⟩ := va_join hP hD isC isR hIC hIR hn2 hn3 hk1 hFc hP1 hD1
  exact kk w hp H1 locs1 ls hP' hD' hS1 hl

/-- a part of the world is enough -/
theorem z_sub {ws' : va_W} (is : List Nat) (hI : is.map (fun i => ws[i]?) = ws'.map some) (hnd : va_nd is = true) (kk : zS X G nL ws' lv k n pc st) : zS X G nL ws lv k n pc st := by
  obtain ⟨p, l', e, R, s, m, args, below, meth, c, A, Q⟩ := X
  intro H locs ls hP hD hS hl
  exact kk H locs ls (zsubP hP hI) (hD.sub is hnd hI) hS hl
/-- the same world, written otherwise -/
theorem z_ws {ws' : va_W} (h : ws = ws') (kk : zS X G nL ws' lv k n pc st) : zS X G nL ws lv k n pc st := h ▸ kk
theorem z_lv {lv' : List (Nat × Value)} (is : List Nat) (h : lv_pick lv is = lv') (kk : zS X G nL ws lv' k n pc st) : zS X G nL ws lv k n pc st := by
  obtain ⟨p, l', e, R, s, m, args, below, meth, c, A, Q⟩ := X
  intro H locs ls hP hD hS hl
  exact kk H locs ls hP hD hS (lv_sub hl is h)
theorem z_wide {k' n' : Nat} (h1 : k ≤ k') (h2 : n ≤ n') (kk : zS X G nL ws lv k' n' pc st) : zS X G nL ws lv k n pc st := by
  obtain ⟨p, l', e, R, s, m, args, below, meth, c, A, Q⟩ := X
  intro H locs ls hP hD hS hl
  exact W.widen h1 h2 (kk H locs ls hP hD hS hl)
end ZCALL
