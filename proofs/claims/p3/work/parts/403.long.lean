def zRl : zX → zG → Nat → ByteArray → Nat → Nat → (Int64 → va_W → Prop) → Prop := fun X G nL cc mc ms post =>
  ∀ (ws : va_W) (lv : List (Nat × Value)) (k n pc : Nat) (r : Int64), decode cc pc = .ok (.lreturn, 1) → k ≤ mc → n ≤ ms → post r ws → zS X G nL ws lv k n pc [.long r]

def zMl (l : Launch) (G : zG) (y : MethodName) (b : ByteArray) (nL : Nat) (fr lo mc ms : Nat) (av : List Value) (ws : va_W) (post : Int64 → va_W → Prop) : Prop :=
  ∀ sz : Nat, Met l y (zWs y b nL (some .long)) { frames := fr, cells := mc, slots := ms, locals := lo } (zPc G sz av ws) (va_Ql post (zB G (va_A ws sz)) (va_A ws sz)) mc ms (va_A ws sz)

theorem zMl.intro {l : Launch} {G : zG} {y : MethodName} {b : ByteArray} {nL : Nat} {fr lo mc ms : Nat} {av : List Value} {ws : va_W} {post : Int64 → va_W → Prop} (hy : plainName y.cls = true) (hav : (lg_sl av).length ≤ nL)
    (body : ∀ X : zX, zC X l G y b nL fr lo mc ms → zRl X G nL b mc ms post → zS X G nL ws (lv_args 0 av) 0 0 0 []) : zMl l G y b nL fr lo mc ms av ws post := by
  intro sz
  refine Met.ofW (cc := b) (maxL := nL) (ret := some .long) hy rfl ?_
  intro p e s m args below meth c s₁ B hml hv
  obtain ⟨rfl, hsz, hP, hK, hD0⟩ := hv
  subst hsz
  have hts := atoms_spec (ws := zWs y b nL (some .long)) B.pre
  have hlocks := B.notSynchronized
  have hC : zC (p, l, e, (headSpec (zWs y b nL (some .long)) { frames := fr, cells := mc, slots := ms, locals := lo }).room, s, m, av.toArray, below, meth, c, va_A ws s.heap.size, MQ below (va_Ql post (zB G (va_A ws s.heap.size)) (va_A ws s.heap.size)) av.toArray s mc ms (va_A ws s.heap.size)) l G y b nL fr lo mc ms :=
    ⟨rfl, rfl, B.exec, B.bytes, hml, findClass_of_methodNamed B.named, fun w hw => hts w (List.mem_cons_of_mem _ hw), (name_of_methodNamed B.named B.method).1, fun q h => Or.inr h, hK⟩
  have hR : zRl (p, l, e, (headSpec (zWs y b nL (some .long)) { frames := fr, cells := mc, slots := ms, locals := lo }).room, s, m, av.toArray, below, meth, c, va_A ws s.heap.size, MQ below (va_Ql post (zB G (va_A ws s.heap.size)) (va_A ws s.heap.size)) av.toArray s mc ms (va_A ws s.heap.size)) G nL b mc ms post := by
    intro w lv k n pc r hd hk hn2 hp H locs ls hP hD hS hl
    refine W.widen (k := mc) (n := ms) hk hn2 ?_
    exact W.lret (v := r) B.exec B.bytes B.returns (fun t ht hW => ⟨⟨r, w, rfl, hp, by rw [zB, ht]; exact ⟨hP, hD⟩⟩, hS.F ht⟩) hS.2.2 hd
  have hb := body _ hC hR s.heap [] ((lg_sl av ++ List.replicate (nL - (lg_sl av).length) Slot.unset).toArray) hP hD0.self va_S.rf (lv_entry av hav)
  rw [lg_entry_eq]
  exact hb

section ZCALLL
variable {X : zX} {l : Launch} {G : zG} {y : MethodName} {cc : ByteArray} {nL fr lo mc ms : Nat} {ws : va_W} {lv : List (Nat × Value)} {k n pc : Nat} {st stk : List Value}
variable {y' : MethodName} {b' : ByteArray} {nL' fr' lo' mc' ms' na idx : Nat} {wc wr : va_W} {ty : FieldType}
theorem z_callVl (hC : zC X l G y cc nL fr lo mc ms) {a : Nat} {As : List Value} {post : Int64 → va_W → Prop} (hM : zMl l G y' b' nL' fr' lo' mc' ms' (.ref a :: As) wc post) (hDe : zDv y' b' nL' (some .long) na) {ci N : Nat} {T : u_T} {tyf : Nat → FieldType} {fs : List Value} (hF : zF ci y'.cls T N tyf) (qr : Nat) (hrec : wc[qr]? = some (a, .inr (ci, fs))) (isC isR : List Nat) (hIC : isC.map (fun i => ws[i]?) = wc.map some) (hIR : isR.map (fun i => ws[i]?) = wr.map some) (hnd : va_nd (isC ++ isR) = true) (hd : decode cc pc = .ok (.invokevirtual idx, 3)) (hw : Cond.methodLink y.cls idx y' ∈ zT) (hst : stk = As.reverse ++ .ref a :: st) (hna : As.length = na) (hk : k + mc' ≤ mc) (hn : n + ms' ≤ ms) (hfr : fr' + 1 ≤ fr) (hlo : 8 + (nL' + 11) + lo' ≤ lo) (hm : (st.map fun v => v.category).sum ≤ 8) (kk : ∀ r w, post r w → zS X G nL (wr ++ w) lv (k + mc') (n + ms') (pc + 3) (.long r :: st)) : zS X G nL ws lv k n pc stk := by
  obtain ⟨p, l', e, R, s, m, args, below, meth, c, A, Q⟩ := X
  obtain ⟨rfl, rfl, hx, hb, hml, hown, hts, hnm, hA, hK⟩ := hC
  intro H locs ls hP hD hS hl
  obtain ⟨hn1, hn2, hn3⟩ := znd isC isR hnd
  have hPc := zsubP hP hIC
  have hDc := hD.sub isC hn1 hIC
  have hFc := va_free hD hS hA isC hIC
  refine va_calll (va_runV (As := As) (rest := st) ⟨hx, hb, hml, hown, hts⟩ (hM H.size) (cwV na hts (zDv.good hDe hw) rfl rfl rfl ⟨rfl, hDe.1.1.1, hDe.1.1.2.1, hDe.1.1.2.2⟩ ⟨hfr, hlo⟩) ⟨zPc.blind, va_recv (hK.1.sub [] rfl) hPc hF.1 hrec, fun U hU hW => zPc.pre (ws := ws) hK hS hFc hPc hDc hU hW⟩ rfl hna hl.1 hst (lv_room hm) hd ⟨hk, hn⟩) hS (fun q _ h => hFc q h) hFc (fun r w t H1 locs1 ht hvm hp hB hz1 hk1 hS1 => ?_)
  obtain ⟨hP1, hD1⟩ := hB
  rw [ht] at hP1
  obtain ⟨hP', hD'⟩ := va_join hP hD isC isR hIC hIR hn2 hn3 hk1 hFc hP1 hD1
  exact kk r w hp H1 locs1 ls hP' hD' hS1 hl

theorem z_callVNl (hC : zC X l G y cc nL fr lo mc ms) {a : Nat} {As : List Value} {post : Int64 → va_W → Prop} {host : String} (hM : zMl l G y' b' nL' fr' lo' mc' ms' (.ref a :: As) wc post) (hDe : zDv y' b' nL' (some .long) na) {ci N : Nat} {T : u_T} {tyf : Nat → FieldType} {fs : List Value} (hF : zF ci y'.cls T N tyf) (qr : Nat) (hrec : wc[qr]? = some (a, .inr (ci, fs))) (isC isR : List Nat) (hIC : isC.map (fun i => ws[i]?) = wc.map some) (hIR : isR.map (fun i => ws[i]?) = wr.map some) (hnd : va_nd (isC ++ isR) = true) (hd : decode cc pc = .ok (.invokevirtual idx, 3)) (hw : Cond.methodLinkNest y.cls idx y' host ∈ zNest) (hst : stk = As.reverse ++ .ref a :: st) (hna : As.length = na) (hk : k + mc' ≤ mc) (hn : n + ms' ≤ ms) (hfr : fr' + 1 ≤ fr) (hlo : 8 + (nL' + 11) + lo' ≤ lo) (hm : (st.map fun v => v.category).sum ≤ 8) (kk : ∀ r w, post r w → zS X G nL (wr ++ w) lv (k + mc') (n + ms') (pc + 3) (.long r :: st)) : zS X G nL ws lv k n pc stk := by
  obtain ⟨p, l', e, R, s, m, args, below, meth, c, A, Q⟩ := X
  obtain ⟨rfl, rfl, hx, hb, hml, hown, hts, hnm, hA, hK⟩ := hC
  intro H locs ls hP hD hS hl
  obtain ⟨hn1, hn2, hn3⟩ := znd isC isR hnd
  have hPc := zsubP hP hIC
  have hDc := hD.sub isC hn1 hIC
  have hFc := va_free hD hS hA isC hIC
  refine va_calll (va_runVN (As := As) (rest := st) ⟨hx, hb, hml, hown, hts⟩ (hM H.size) ⟨va_cnB na hts (zDe.good hDe.1) rfl rfl rfl (hK.2.2.2.2.2.2 _ hw) (hts _ hDe.1.2.2) hDe.1.1 ⟨hfr, hlo⟩, hts _ hDe.2.1, hts _ hDe.2.2⟩ ⟨zPc.blind, va_recv (hK.1.sub [] rfl) hPc hF.1 hrec, fun U hU hW => zPc.pre (ws := ws) hK hS hFc hPc hDc hU hW⟩ rfl hna hl.1 hst (lv_room hm) hd ⟨hk, hn⟩) hS (fun q _ h => hFc q h) hFc (fun r w t H1 locs1 ht hvm hp hB hz1 hk1 hS1 => ?_)
  obtain ⟨hP1, hD1⟩ := hB
  rw [ht] at hP1
  obtain ⟨hP', hD'⟩ := va_join hP hD isC isR hIC hIR hn2 hn3 hk1 hFc hP1 hD1
  exact kk r w hp H1 locs1 ls hP' hD' hS1 hl

theorem z_callSl (hC : zC X l G y cc nL fr lo mc ms) {As : List Value} {post : Int64 → va_W → Prop} (hM : zMl l G y' b' nL' fr' lo' mc' ms' As wc post) (hDe : zDs y' b' nL' (some .long) na) (isC isR : List Nat) (hIC : isC.map (fun i => ws[i]?) = wc.map some) (hIR : isR.map (fun i => ws[i]?) = wr.map some) (hnd : va_nd (isC ++ isR) = true) (hd : decode cc pc = .ok (.invokestatic idx, 3)) (hw : Cond.methodLink y.cls idx y' ∈ zT) (hst : stk = As.reverse ++ st) (hna : As.length = na) (hk : k + mc' ≤ mc) (hn : n + ms' ≤ ms) (hfr : fr' + 1 ≤ fr) (hlo : 8 + (nL' + 11) + lo' ≤ lo) (hm : (st.map fun v => v.category).sum ≤ 8) (kk : ∀ r w, post r w → zS X G nL (wr ++ w) lv (k + mc') (n + ms') (pc + 3) (.long r :: st)) : zS X G nL ws lv k n pc stk := by
  obtain ⟨p, l', e, R, s, m, args, below, meth, c, A, Q⟩ := X
  obtain ⟨rfl, rfl, hx, hb, hml, hown, hts, hnm, hA, hK⟩ := hC
  intro H locs ls hP hD hS hl
  obtain ⟨hn1, hn2, hn3⟩ := znd isC isR hnd
  have hPc := zsubP hP hIC
  have hDc := hD.sub isC hn1 hIC
  have hFc := va_free hD hS hA isC hIC
  refine va_calll (va_runS (As := As) (rest := st) ⟨hx, hb, hml, hown, hts⟩ (hM H.size) (va_cwS na hts (zDs.good hDe hw) rfl rfl rfl ⟨hDe.1.1.1, hDe.1.1.2.1, hDe.1.1.2.2⟩ ⟨hfr, hlo⟩) ⟨zPc.blind, fun U hU hW => zPc.pre (ws := ws) hK hS hFc hPc hDc hU hW⟩ rfl hna hl.1 hst (lv_room hm) hd ⟨hk, hn⟩) hS (fun q _ h => hFc q h) hFc (fun r w t H1 locs1 ht hvm hp hB hz1 hk1 hS1 => ?_)
  obtain ⟨hP1, hD1⟩ := hB
  rw [ht] at hP1
  obtain ⟨hP', hD'⟩ := va_join hP hD isC isR hIC hIR hn2 hn3 hk1 hFc hP1 hD1
  exact kk r w hp H1 locs1 ls hP' hD' hS1 hl

theorem z_callSNl (hC : zC X l G y cc nL fr lo mc ms) {As : List Value} {post : Int64 → va_W → Prop} {host : String} (hM : zMl l G y' b' nL' fr' lo' mc' ms' As wc post) (hDe : zDs y' b' nL' (some .long) na) (isC isR : List Nat) (hIC : isC.map (fun i => ws[i]?) = wc.map some) (hIR : isR.map (fun i => ws[i]?) = wr.map some) (hnd : va_nd (isC ++ isR) = true) (hd : decode cc pc = .ok (.invokestatic idx, 3)) (hw : Cond.methodLinkNest y.cls idx y' host ∈ zNest) (hst : stk = As.reverse ++ st) (hna : As.length = na) (hk : k + mc' ≤ mc) (hn : n + ms' ≤ ms) (hfr : fr' + 1 ≤ fr) (hlo : 8 + (nL' + 11) + lo' ≤ lo) (hm : (st.map fun v => v.category).sum ≤ 8) (kk : ∀ r w, post r w → zS X G nL (wr ++ w) lv (k + mc') (n + ms') (pc + 3) (.long r :: st)) : zS X G nL ws lv k n pc stk := by
  obtain ⟨p, l', e, R, s, m, args, below, meth, c, A, Q⟩ := X
  obtain ⟨rfl, rfl, hx, hb, hml, hown, hts, hnm, hA, hK⟩ := hC
  intro H locs ls hP hD hS hl
  obtain ⟨hn1, hn2, hn3⟩ := znd isC isR hnd
  have hPc := zsubP hP hIC
  have hDc := hD.sub isC hn1 hIC
  have hFc := va_free hD hS hA isC hIC
  refine va_calll (va_runSN (As := As) (rest := st) ⟨hx, hb, hml, hown, hts⟩ (hM H.size) ⟨va_cnB na hts (zDe.good hDe.1) rfl rfl rfl (hK.2.2.2.2.2.2 _ hw) (hts _ hDe.1.2.2) hDe.1.1 ⟨hfr, hlo⟩, hts _ hDe.2, trivial⟩ ⟨zPc.blind, fun U hU hW => zPc.pre (ws := ws) hK hS hFc hPc hDc hU hW⟩ rfl hna hl.1 hst (lv_room hm) hd ⟨hk, hn⟩) hS (fun q _ h => hFc q h) hFc (fun r w t H1 locs1 ht hvm hp hB hz1 hk1 hS1 => ?_)
  obtain ⟨hP1, hD1⟩ := hB
  rw [ht] at hP1
  obtain ⟨hP', hD'⟩ := va_join hP hD isC isR hIC hIR hn2 hn3 hk1 hFc hP1 hD1
  exact kk r w hp H1 locs1 ls hP' hD' hS1 hl

end ZCALLL
def rQl (G : zG) (κ : Nat → Nat) (Q : Int64 → rS → Prop) : Int64 → va_W → Prop := fun r w => ∃ σ', rWF σ' ∧ w = rW G κ σ' ∧ Q r σ'
def rMl (l : Launch) (G : zG) (κ : Nat → Nat) (y : MethodName) (b : ByteArray) (nL : Nat) (fr lo : Nat) (av : List Value) (σ : rS) (Q : Int64 → rS → Prop) : Prop := zMl l G y b nL fr lo 0 0 av (rW G κ σ) (rQl G κ Q)
def f_lcmp (a b : Int64) : Int := (lg_cmp a b).toInt
theorem f_lcmp_rng (a b : Int64) : rng (f_lcmp a b) := i_rng _
def f_l2i (a : Int64) : Int := a.toInt32.toInt
theorem f_l2i_rng (a : Int64) : rng (f_l2i a) := i_rng _
theorem rKeep.sL0 {f : Nat} {i : Int} {x : Int64} {s : rS} (hf : f < 1000) : rKeep 0 0 (2 ^ f) 0 0 s (sL s (1000 + f) i x) := ⟨fun _ _ => rfl, fun _ _ _ _ => rfl, fun _ _ _ _ => rfl, fun _ _ _ _ _ _ => rfl, fun _ _ => rfl, fun _ _ _ => rfl, fun f' i' f1 g => if_neg (fun h => by
  have h2 : f' = f := by omega
  subst h2; rw [Nat.testBit_two_pow_self] at g; cases g)⟩
section RLONG
variable {X : zX} {l : Launch} {G : zG} {y : MethodName} {cc : ByteArray} {nL fr lo mc ms : Nat} {lv : List (Nat × Value)} {k n pc : Nat} {st stk : List Value} {κ : Nat → Nat} {σ : rS}
variable {y' : MethodName} {b' : ByteArray} {nL' fr' lo' na idx : Nat}
theorem y_lcmp (hC : zC X l G y cc nL fr lo mc ms) {ws : va_W} {a b : Int64} (hd : decode cc pc = .ok (.lcmp, 1)) (kk : zS X G nL ws lv k n (pc + 1) (iv (f_lcmp a b) :: st)) : zS X G nL ws lv k n pc (.long b :: .long a :: st) := z_lcmp hC hd (by rw [f_lcmp, Int32.ofInt_toInt]) kk
theorem y_l2i (hC : zC X l G y cc nL fr lo mc ms) {ws : va_W} {a : Int64} (hd : decode cc pc = .ok (.l2i, 1)) (kk : zS X G nL ws lv k n (pc + 1) (iv (f_l2i a) :: st)) : zS X G nL ws lv k n pc (.long a :: st) := z_l2i hC hd (by rw [f_l2i, Int32.ofInt_toInt]) kk
theorem y_retl {x : Int64} {Q : Int64 → rS → Prop} (hR : zRl X G nL cc mc ms (rQl G κ Q)) (hd : decode cc pc = .ok (.lreturn, 1)) (hwf : rWF σ) (hk : k ≤ mc) (hn2 : n ≤ ms) (hq : Q x σ) : zS X G nL (rW G κ σ) lv k n pc [.long x] := hR _ _ _ _ _ _ hd hk hn2 ⟨σ, hwf, rfl, hq⟩
theorem y_lald (hC : zC X l G y cc nL fr lo mc ms) {N p : Nat} {x : Int} {v : Int64} (ha : rAr 4 N p) (hd : decode cc pc = .ok (.laload, 1)) (hi : 0 ≤ x ∧ x < N) (hv : rL σ p x = v) (kk : zS X G nL (rW G κ σ) lv k n (pc + 1) (.long v :: st)) : zS X G nL (rW G κ σ) lv k n pc (iv x :: .ref (κ p) :: st) := by
  obtain ⟨i, hi', hc⟩ := rW_at G κ σ ha.1
  rw [rC_ar4 ha, rAr_rad ha] at hc
  subst hv
  exact z_lald hC i hd hc (i_in hi ha.2.2.2.2) (by show rL σ p _ = _; rw [i_nat hi ha.2.2.2.2]) kk
theorem rC_sL {p j : Nat} {i : Int} {x : Int64} (h : j ≠ p) : rC G κ (sL σ p i x) j = rC G κ σ j := by
  have e : (fun z : Nat => rL (sL σ p i x) j z) = (fun z : Nat => rL σ j z) := by
    funext z
    exact if_neg (fun q => h q.1)
  rw [rC, rC, e]
  rfl
theorem y_last (hC : zC X l G y cc nL fr lo mc ms) {N p : Nat} {x : Int} {v : Int64} (ha : rAr 4 N p) (hd : decode cc pc = .ok (.lastore, 1)) (hi : 0 ≤ x ∧ x < N) (kk : zS X G nL (rW G κ (sL σ p x v)) lv k n (pc + 1) st) : zS X G nL (rW G κ σ) lv k n pc (.long v :: iv x :: .ref (κ p) :: st) := by
  obtain ⟨i, hi', hc⟩ := rW_at G κ σ ha.1
  rw [rC_ar4 ha, rAr_rad ha] at hc
  refine z_last hC i (f' := fun j => rL (sL σ p x v) p j) _ hd hc (i_in hi ha.2.2.2.2) ?_ ?_ kk
  · funext j
    have e := i_nat hi ha.2.2.2.2
    show (if j = (Int32.ofInt x).toNatClampNeg then _ else _) = rL (sL σ p x v) p j
    by_cases hj : j = (Int32.ofInt x).toNatClampNeg
    · have h2 : (j : Int) = x := by rw [hj]; exact e
      rw [if_pos hj, h2]
      exact (if_pos ⟨rfl, rfl⟩ : rL (sL σ p x v) p x = v).symm
    · have h2 : (j : Int) ≠ x := fun q => hj (by omega)
      rw [if_neg hj]
      exact (if_neg (fun q => h2 q.2) : rL (sL σ p x v) p j = rL σ p j).symm
  · rw [← rAr_rad ha κ σ]
    exact rW_set hi' (rC_ar4 ha) (fun j hj => rC_sL hj) (fun _ => rfl)

theorem y_callVl (hC : zC X l G y cc nL fr lo mc ms) {ci N q : Nat} {T : u_T} {tyf : Nat → FieldType} {t : List (Nat × Nat)} {As : List Value} {Q : Int64 → rS → Prop} (hM : rMl l G κ y' b' nL' fr' lo' (.ref (κ q) :: As) σ Q) (hDe : zDv y' b' nL' (some .long) na) (hF : zF ci y'.cls T N tyf) (ho : rOb ci N t q) (hd : decode cc pc = .ok (.invokevirtual idx, 3)) (hw : Cond.methodLink y.cls idx y' ∈ zT) (hst : stk = As.reverse ++ .ref (κ q) :: st) (hna : As.length = na) (hk : k + 0 ≤ mc) (hn : n + 0 ≤ ms) (hfr : fr' + 1 ≤ fr) (hlo : 8 + (nL' + 11) + lo' ≤ lo) (hm : (st.map fun v => v.category).sum ≤ 8) (kk : ∀ x σ', rWF σ' → Q x σ' → zS X G nL (rW G κ σ') lv k n (pc + 3) (.long x :: st)) : zS X G nL (rW G κ σ) lv k n pc stk := by
  obtain ⟨i, hi, hc⟩ := rW_at G κ σ ho.1
  rw [ho.2.2, r_rad ho.2.1] at hc
  exact z_callVl (wr := []) hC hM hDe hF i hc (List.range 178) [] (rW_all G κ σ) rfl rW_nd hd hw hst hna hk hn hfr hlo hm (fun r w ⟨σ', hwf, e2, hq⟩ => by subst e2; exact kk r σ' hwf hq)
theorem y_callVNl (hC : zC X l G y cc nL fr lo mc ms) {host : String} {ci N q : Nat} {T : u_T} {tyf : Nat → FieldType} {t : List (Nat × Nat)} {As : List Value} {Q : Int64 → rS → Prop} (hM : rMl l G κ y' b' nL' fr' lo' (.ref (κ q) :: As) σ Q) (hDe : zDv y' b' nL' (some .long) na) (hF : zF ci y'.cls T N tyf) (ho : rOb ci N t q) (hd : decode cc pc = .ok (.invokevirtual idx, 3)) (hw : Cond.methodLinkNest y.cls idx y' host ∈ zNest) (hst : stk = As.reverse ++ .ref (κ q) :: st) (hna : As.length = na) (hk : k + 0 ≤ mc) (hn : n + 0 ≤ ms) (hfr : fr' + 1 ≤ fr) (hlo : 8 + (nL' + 11) + lo' ≤ lo) (hm : (st.map fun v => v.category).sum ≤ 8) (kk : ∀ x σ', rWF σ' → Q x σ' → zS X G nL (rW G κ σ') lv k n (pc + 3) (.long x :: st)) : zS X G nL (rW G κ σ) lv k n pc stk := by
  obtain ⟨i, hi, hc⟩ := rW_at G κ σ ho.1
  rw [ho.2.2, r_rad ho.2.1] at hc
  exact z_callVNl (wr := []) hC hM hDe hF i hc (List.range 178) [] (rW_all G κ σ) rfl rW_nd hd hw hst hna hk hn hfr hlo hm (fun r w ⟨σ', hwf, e2, hq⟩ => by subst e2; exact kk r σ' hwf hq)
theorem y_callSl (hC : zC X l G y cc nL fr lo mc ms) {As : List Value} {Q : Int64 → rS → Prop} (hM : rMl l G κ y' b' nL' fr' lo' As σ Q) (hDe : zDs y' b' nL' (some .long) na) (hd : decode cc pc = .ok (.invokestatic idx, 3)) (hw : Cond.methodLink y.cls idx y' ∈ zT) (hst : stk = As.reverse ++ st) (hna : As.length = na) (hk : k + 0 ≤ mc) (hn : n + 0 ≤ ms) (hfr : fr' + 1 ≤ fr) (hlo : 8 + (nL' + 11) + lo' ≤ lo) (hm : (st.map fun v => v.category).sum ≤ 8) (kk : ∀ x σ', rWF σ' → Q x σ' → zS X G nL (rW G κ σ') lv k n (pc + 3) (.long x :: st)) : zS X G nL (rW G κ σ) lv k n pc stk := by
  exact z_callSl (wr := []) hC hM hDe (List.range 178) [] (rW_all G κ σ) rfl rW_nd hd hw hst hna hk hn hfr hlo hm (fun r w ⟨σ', hwf, e2, hq⟩ => by subst e2; exact kk r σ' hwf hq)
theorem y_callSNl (hC : zC X l G y cc nL fr lo mc ms) {host : String} {As : List Value} {Q : Int64 → rS → Prop} (hM : rMl l G κ y' b' nL' fr' lo' As σ Q) (hDe : zDs y' b' nL' (some .long) na) (hd : decode cc pc = .ok (.invokestatic idx, 3)) (hw : Cond.methodLinkNest y.cls idx y' host ∈ zNest) (hst : stk = As.reverse ++ st) (hna : As.length = na) (hk : k + 0 ≤ mc) (hn : n + 0 ≤ ms) (hfr : fr' + 1 ≤ fr) (hlo : 8 + (nL' + 11) + lo' ≤ lo) (hm : (st.map fun v => v.category).sum ≤ 8) (kk : ∀ x σ', rWF σ' → Q x σ' → zS X G nL (rW G κ σ') lv k n (pc + 3) (.long x :: st)) : zS X G nL (rW G κ σ) lv k n pc stk := by
  exact z_callSNl (wr := []) hC hM hDe (List.range 178) [] (rW_all G κ σ) rfl rW_nd hd hw hst hna hk hn hfr hlo hm (fun r w ⟨σ', hwf, e2, hq⟩ => by subst e2; exact kk r σ' hwf hq)
end RLONG
