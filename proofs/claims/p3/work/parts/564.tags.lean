theorem OP.mvF {s t : rS} {k K : Nat} {g : Nat → Int → Int} {it d lo x y e : Int} (h : rF t k 7 = rF s k 7) (O : OP s k g it K d lo x y e) : OP t k g it K d lo x y e := by unfold OP; rw [h]; exact O
theorem NR.mvF {s t : rS} {k S : Nat} {g : Nat → Int → Int} {v n0 lo hi d : Int} (h : rF t k 7 = rF s k 7) (V : NR s k g S v n0 lo hi d) : NR t k g S v n0 lo hi d := by unfold NR; rw [h]; exact V
theorem GS.h40 {s : rS} {k : Nat} {g : Nat → Int → Int} {i x : Int} (G : GS s k g) : GS (sA s 1040 i x) k g := by rw [GS_a40]; exact G
theorem GS.h39 {s : rS} {k : Nat} {g : Nat → Int → Int} {x : Int} (G : GS s k g) : GS (sF s 0 39 x) k g := by rw [GS_F39]; exact G
theorem GS.c3v {s : rS} {k K : Nat} {g : Nat → Int → Int} {it d lo x y e z : Int} (hk : rgk k) (G : GS s k g) (O : OP s k g it K d lo x y e) (hK : K = 6 ∨ K = 7) (hz : 0 ≤ z ∧ z < 320) : GS (sT s k 3 it z) k g := by
  refine ⟨?_, GQ.stt hk (by decide) G.2 (Or.inl (by decide))⟩
  replace G := G.1
  unfold GS0; rw [tr_u hk (by decide)]
  have o3 := O.2.2.1
  intro m h0 h1
  obtain ⟨S, u, c, oo, x', n, zz'⟩ := G m h0 h1
  have e := fun f (h3 : f ≠ 3) => udt_ne (t := tr s k) (f := 3) (i := it) (x := z) (f' := f) (i' := m) (Or.inl h3)
  refine ⟨?_, u, ?_, ?_, ?_, ?_, ?_⟩
  · unfold gS at *
    rw [e 0 (by decide), e 1 (by decide), e 2 (by decide), e 4 (by decide)]
    by_cases hm : m = it
    · subst hm
      obtain ⟨s1, s2, s3, s4, s5, s6, s7, s8, s9, s10, s11, s12, s13, s14, s15, s16, s17⟩ := S
      rw [udt_eq]
      exact ⟨s1, s2, s3, s4, s5, s6, s7, s8, s9, s10, s11, s12, s13, s14, fun h => absurd h (by omega), fun _ => hz, s17⟩
    · rw [udt_ne (Or.inr hm)]; exact S
  · intro f K' hf hK'
    by_cases f3 : f = 3
    · subst f3
      by_cases hm : m = it
      · subst hm
        have : K' = K := by omega
        subst this
        rcases hK with rfl | rfl <;> exact absurd rfl hf
      · rw [udt_ne (Or.inr hm)]; exact c 3 K' hf hK'
    · rw [e f f3]; exact c f K' hf hK'
  · intro K' hK' hO
    have o' := oo K' hK' hO
    rw [e 1 (by decide), e 2 (by decide)]
    refine ⟨o'.1, fun k41 => ?_⟩
    have hm : m ≠ it := fun E => by subst E; omega
    rw [udt_ne (Or.inr hm)]; exact o'.2 k41
  · unfold gX at *; rw [e 5 (by decide)]; exact x'
  · unfold gN at *; rw [e 5 (by decide)]; exact n
  · unfold gG at *; rw [e 1 (by decide)]; exact zz'
theorem GS.prt {s : rS} {k : Nat} {g : Nat → Int → Int} {i a b c d i' i2 : Int} (G : GS s k g) : GS (sF (sA (sA (sA s (1000 * (k + 1) + 29) i a) (1000 * (k + 1) + 30) i' b) (1000 * (k + 1) + 31) i2 c) k 32 d) k g := by
  refine ⟨?_, GQ.tf G.2 (Int.le_of_eq (F_sF_ne (by decide)).symm) (F_sF_ne (by decide)) (fun x n _ hz => by rw [zz_F (by decide), zz_out (Or.inr (by omega)), zz_out (Or.inr (by omega)), zz_out (Or.inr (by omega))]; exact hz) (fun j _ => by rw [ck3_sF, ck3_out (Or.inr (by omega)), ck3_out (Or.inr (by omega)), ck3_out (Or.inr (by omega))]) (fun _ _ _ => rfl) (fun m _ m1 _ m2 => ⟨by rw [F_sF_ne (by decide)] at m1; exact m1, m2, rfl, by
    rw [tr_sF]; unfold tr
    rw [if_pos (Or.inl (by decide)), if_pos (Or.inl (by decide))]
    rw [A_sA_ne (by omega), A_sA_ne (by omega), A_sA_ne (by omega)]⟩)⟩
  replace G := G.1
  unfold GS0
  rw [F_sF_ne (show (7 : Nat) ≠ 32 by decide), F_sF_ne (show (12 : Nat) ≠ 32 by decide), tr_sF]
  refine GI.mv G (fun f i hf _ _ => ?_) rfl (Int.le_refl _)
  unfold tr
  rw [if_pos (Or.inl hf), if_pos (Or.inl hf)]
  rw [A_sA_ne (by omega), A_sA_ne (by omega), A_sA_ne (by omega)]
theorem RG.h40 {τ s : rS} {k : Nat} {c i x : Int} (hk : rgk k) (h : RG τ s k c) (ho : rF τ 0 39 ≤ i) : RG τ (sA s 1040 i x) k c := by
  obtain ⟨a, b, w1, w2, w4, w5⟩ := h
  refine ⟨fun f j hf hj hc => ?_, ?_, w1, w2, fun j hj => w4 j hj, fun j hj => ?_⟩
  · rw [tr_a40]; exact a f j hf hj hc
  · obtain ⟨b1, b2, b3, b4, b5, b6⟩ := b
    refine ⟨fun j hj => by rw [tr_a40]; exact b1 j hj, fun x n hx hz => by rw [zz_out (Or.inl (by decide))]; exact b2 x n hx hz, b3, b4, b5, fun j hj => ?_⟩
    have e := kq_k hk
    rw [ck3_out (Or.inl (by decide))]; exact b6 j hj
  · rw [rA_sA, if_neg (by omega)]; exact w5 j hj
theorem RG.h39 {τ s : rS} {k : Nat} {c x : Int} (hk : rgk k) (h : RG τ s k c) (ho : rF τ 0 39 ≤ x) : RG τ (sF s 0 39 x) k c := by
  have e := kq_k hk
  unfold RG RGf RGp RGw at *
  simp only [e, F_sF, F_sF_ne (show (7 : Nat) ≠ 39 by decide), F_sF_ne (show (32 : Nat) ≠ 39 by decide), F_sF_ne (show (38 : Nat) ≠ 39 by decide), zz_sF, tr_sF, rA_sF, ck3_sF] at h ⊢
  obtain ⟨a, b, w1, w2, w4, w5⟩ := h
  exact ⟨a, b, w1, ho, w4, w5⟩
theorem RG.prt {τ s : rS} {k : Nat} {g0 i a b c : Int} (hk : rgk k) (h : RG τ s k g0) (hi : rF τ k 32 ≤ i) (hp : rF s k 32 = i := by first | rfl | omega) : RG τ (sF (sA (sA (sA s (1000 * (k + 1) + 29) i a) (1000 * (k + 1) + 30) i b) (1000 * (k + 1) + 31) i c) k 32 (i + 1)) k g0 := by
  have e := kq_k hk
  have ht : ∀ f j, (f < 6 ∨ f = 31 ∧ j ≠ i) → tr (sA (sA (sA s (1000 * (k + 1) + 29) i a) (1000 * (k + 1) + 30) i b) (1000 * (k + 1) + 31) i c) k f j = tr s k f j := by
    intro f j hf
    have k1 : 1 ≤ k := by rcases hk with rfl | rfl | rfl <;> decide
    unfold tr
    rw [if_pos (by omega), if_pos (by omega)]
    rcases hf with hf | ⟨rfl, hj⟩
    · rw [A_sA_ne (by omega), A_sA_ne (by omega), A_sA_ne (by omega)]
    · rw [rA_sA, if_neg (fun q => hj q.2), A_sA_ne (by omega), A_sA_ne (by omega)]
  have hz : zz (sA (sA (sA s (1000 * (k + 1) + 29) i a) (1000 * (k + 1) + 30) i b) (1000 * (k + 1) + 31) i c) k = zz s k := by
    rw [zz_out (Or.inr (by omega)), zz_out (Or.inr (by omega)), zz_out (Or.inr (by omega))]
  have ha : ∀ p j, p ≠ 1000 * (k + 1) + 29 → p ≠ 1000 * (k + 1) + 30 → p ≠ 1000 * (k + 1) + 31 → rA (sA (sA (sA s (1000 * (k + 1) + 29) i a) (1000 * (k + 1) + 30) i b) (1000 * (k + 1) + 31) i c) p j = rA s p j := by
    intro p j p1 p2 p3
    rw [A_sA_ne p3, A_sA_ne p2, A_sA_ne p1]
  have k1 : 1 ≤ k := by rcases hk with rfl | rfl | rfl <;> decide
  unfold RG RGf RGp RGw at *
  simp only [e, F_sF, F_sF_ne (show (7 : Nat) ≠ 32 by decide), F_sF_ne (show (38 : Nat) ≠ 32 by decide), F_sF_ne (show (39 : Nat) ≠ 32 by decide), zz_F (show (38 : Nat) ≠ 32 by decide), tr_sF, rA_sF, ck3_sF, rF_sA] at h ⊢
  obtain ⟨q, ⟨b1, b2, b3, b4, b5, b6⟩, w1, w2, w4, w5⟩ := h
  refine ⟨fun f j hf hj hc => (ht f j (Or.inl hf)).trans (q f j hf hj hc), ⟨fun j hj => (ht 31 j (Or.inr ⟨rfl, by omega⟩)).trans (b1 j hj), fun x n hx hz' => by rw [hz]; exact b2 x n hx hz', b3, by omega, b5, fun j hj => by rw [ck3_ne (by omega), ck3_ne (by omega), ck3_ne (by omega)]; exact b6 j hj⟩, w1, w2, fun j hj => ⟨(ha _ j (by omega) (by omega) (by omega)).trans (w4 j hj).1, (ha _ j (by omega) (by omega) (by omega)).trans (w4 j hj).2⟩, fun j hj => (ha _ j (by omega) (by omega) (by omega)).trans (w5 j hj)⟩
theorem RG.i39 {s : rS} {k : Nat} {x : Int} (ho : x ≤ rF s 0 39) : RG (sF s 0 39 x) s k 0 := by
  unfold RG RGf RGp RGw
  simp only [F_sF, F_sF_ne (show (7 : Nat) ≠ 39 by decide), F_sF_ne (show (32 : Nat) ≠ 39 by decide), F_sF_ne (show (38 : Nat) ≠ 39 by decide), zz_sF, tr_sF, rA_sF, ck3_sF]
  refine ⟨fun _ _ _ _ _ => ?_, ⟨fun _ _ => ?_, fun _ _ _ h => h, Int.le_refl _, Int.le_refl _, Int.le_refl _, fun _ _ => ?_⟩, Int.le_refl _, ho, fun _ _ => ⟨?_, ?_⟩, fun _ _ => ?_⟩ <;> first | trivial | rfl
theorem RG.t39 {τ s t : rS} {k : Nat} {o : Int} (h' : RG (sF s 0 39 o) t k 0) (h : RG τ s k 0) (ho : rF τ 0 39 ≤ o) : RG τ t k 0 := by
  unfold RG RGf RGp RGw at *
  simp only [F_sF, F_sF_ne (show (7 : Nat) ≠ 39 by decide), F_sF_ne (show (32 : Nat) ≠ 39 by decide), F_sF_ne (show (38 : Nat) ≠ 39 by decide), zz_sF, tr_sF, rA_sF, ck3_sF] at h'
  obtain ⟨a, ⟨b1, b2, b3, b4, b5, b6⟩, w1, w2, w4, w5⟩ := h
  obtain ⟨a', ⟨b1', b2', b3', b4', b5', b6'⟩, w1', w2', w4', w5'⟩ := h'
  exact ⟨fun f i hf hi hc => (a' f i hf (by omega) (Or.inr (Or.inl trivial))).trans (a f i hf hi hc), ⟨fun i hi => (b1' i (by omega)).trans (b1 i hi), fun x n hx hz => b2' x n hx (b2 x n hx hz), by omega, by omega, by omega, fun i hi => (b6' i (by omega)).trans (b6 i hi)⟩, by omega, by omega, fun j hj => ⟨(w4' j (by omega)).1.trans (w4 j hj).1, (w4' j (by omega)).2.trans (w4 j hj).2⟩, fun j hj => (w5' j (by omega)).trans (w5 j hj)⟩
theorem PNp.add {s : rS} {k : Nat} {i a b c i' i2 : Int} (h : PNp s) (e0 : rR s 7 = k) (hi : i = rF s k 32) (hc : 0 < c ∧ c < rF s k 7) (h6 : rA s (1000 * (k + 1) + 0) c = 6) : PNp (sF (sA (sA (sA s (1000 * (k + 1) + 29) i' a) (1000 * (k + 1) + 30) i2 b) (1000 * (k + 1) + 31) i c) k 32 (i + 1)) := by
  subst e0
  obtain ⟨hk, h⟩ := h
  have k1 : 1 ≤ rR s 7 := by rcases hk with q | q | q <;> rw [q] <;> decide
  refine ⟨hk, fun j j0 j1 => ?_⟩
  simp only [rR_sF, rR_sA] at j1 ⊢
  rw [F_sF] at j1
  rw [F_sF_ne (show (7 : Nat) ≠ 32 by decide), rA_sF, rF_sA, rF_sA, rF_sA, rA_sF]
  have e0 : ∀ z, rA (sA (sA (sA s (1000 * (rR s 7 + 1) + 29) i' a) (1000 * (rR s 7 + 1) + 30) i2 b) (1000 * (rR s 7 + 1) + 31) i c) (1000 * (rR s 7 + 1) + 0) z = rA s (1000 * (rR s 7 + 1) + 0) z := fun z => by
    rw [A_sA_ne (by omega), A_sA_ne (by omega), A_sA_ne (by omega)]
  rw [e0]
  by_cases q : j = i
  · rw [rA_sA, if_pos ⟨rfl, q⟩]; exact ⟨hc.1, hc.2, h6⟩
  · rw [rA_sA, if_neg (fun w => q w.2), A_sA_ne (by omega), A_sA_ne (by omega)]
    exact h j j0 (by omega)
theorem PNp.sT {s : rS} {k f : Nat} {i x : Int} (h : PNp s) (hf : 0 < f ∧ f < 6) : PNp (sT s k f i x) := by rw [PNp_sT hf]; exact h
/-! what a tag leaves, a text in progress -/
theorem WD.gkw {s t : rS} {k : Nat} {g g' : Nat → Int → Int} {a b n1 n2 lo hi : Int} (h : WD s k g a b n1 n2 lo hi) (hw : ∀ j, j < rF s 0 38 → rA t 1034 j = rA s 1034 j ∧ rA t 1035 j = rA s 1035 j) (K : GK g g' (rF s k 7) (rF t k 7) 0) (hb : b ≤ rF s 0 38) : WD t k g' a b n1 n2 lo hi := by
  obtain ⟨K1, K2, K3⟩ := K
  have n2N := h.2.2.1
  have n10 := h.1
  refine WDt.chg h K1 (fun j _ j2 => hw j (by omega)) (fun j m m1 m2 hj _ => K2 j m (by omega) (by omega)) (fun m m0 m1 => ?_)
  by_cases hm : m < rF s k 7
  · exact Or.inl ⟨hm, K2 3 m hm (by omega)⟩
  · right; have := K3 m (by omega) m1; omega
def TQ (σ t : rS) (k : Nat) (h : Nat → Int → Int) (o : Int) (L : List Int) : Prop := WD t k h (rF σ 0 38) (rF t 0 38) (rF σ k 7) (rF t k 7) (rF σ 0 29) (rF t 0 29) ∧ ∃ L', WS (rA t 1034) (rF σ 0 38) (rF t 0 38) L L' ∧ OKl (rA t 1040) o (rF t 0 39) L'
def TX (s : rS) (k : Nat) (h : Nat → Int → Int) (base n1 lo x o : Int) : Prop := WD s k h base (rF s 0 38) n1 (rF s k 7) lo x ∧ ∃ L, WS (rA s 1034) base (rF s 0 38) [] L ∧ OKl (rA s 1040) o (rF s 0 39) L
theorem TX.i {s : rS} {k : Nat} {h : Nat → Int → Int} {lo : Int} (h0 : 0 < rF s k 7) (hl : 0 ≤ lo ∧ lo ≤ 9000) : TX s k h (rF s 0 38) (rF s k 7) lo lo (rF s 0 39) := ⟨WD.nil ⟨h0, Int.le_refl _, Int.le_refl _, hl.1, Int.le_refl _, hl.2⟩, [], WS.nil, OKl.nil⟩
theorem TX.tag {s t : rS} {k : Nat} {h h' : Nat → Int → Int} {base n1 lo x o : Int} {L : List Int} (W : WD s k h base (rF s 0 38) n1 (rF s k 7) lo x) (S : WS (rA s 1034) base (rF s 0 38) [] L) (Q : TQ s t k h' o L) (K : GK h h' (rF s k 7) (rF t k 7) 0) (R : RG (sF s 0 39 o) t k 0) (hx : x ≤ rF s 0 29) : TX t k h' base n1 lo (rF t 0 29) o := by
  obtain ⟨Q1, L', Q2, Q3⟩ := Q
  have hw : ∀ j, j < rF s 0 38 → rA t 1034 j = rA s 1034 j ∧ rA t 1035 j = rA s 1035 j := fun j hj => by
    have := R.2.2.2.2.1 j (by rw [F_sF_ne (by decide)]; exact hj)
    exact this
  have W' := W.gkw hw K (Int.le_refl _)
  exact ⟨W'.app Q1 (Int.le_refl _) hx, L', (S.cg (fun j _ j2 => (hw j j2).1)).app Q2, Q3⟩
theorem TX.word {s t : rS} {k : Nat} {h : Nat → Int → Int} {base n1 lo x o q : Int} (T : TX s k h base n1 lo x o) (R : RG s t k 0) (hN : rF t k 7 = rF s k 7) (hw : rF t 0 38 = rF s 0 38 + 1) (ho : rF t 0 39 = rF s 0 39) (hq : rA t 1034 (rF s 0 38) = q) (hn : q ≠ 5 ∧ q ≠ 25 ∧ q ≠ 22 ∧ q ≠ 23 ∧ q ≠ 24 ∧ q ≠ 26 ∧ q ≠ 4 ∧ q ≠ 6 ∧ q ≠ 7) : TX t k h base n1 lo x o := by
  obtain ⟨W, L, S, O⟩ := T
  have W' := W.gkw (t := t) (fun j hj => R.2.2.2.2.1 j hj) (GK.up hN) (Int.le_refl _)
  have w0 := W.1; have w1 := W.2.1; have w3 := W.2.2.2.1; have w4 := W.2.2.2.2.1; have w5 := W.2.2.2.2.2.1
  have Wn : WD t k h (rF s 0 38) (rF s 0 38 + 1) (rF s k 7) (rF s k 7) x x := WD.non (by rw [hq]; unfold nwp; omega) ⟨by omega, Int.le_refl _, by omega, by omega, Int.le_refl _, w5⟩
  refine ⟨?_, L, ?_, ?_⟩
  · rw [hw, hN]; exact W'.app Wn (Int.le_refl _) (Int.le_refl _)
  · rw [hw]; exact (S.cg (fun j _ j2 => (R.2.2.2.2.1 j j2).1)).snoc (by rw [hq]; exact stp_o ⟨hn.1, hn.2.1, hn.2.2.1, hn.2.2.2.1, hn.2.2.2.2.1, hn.2.2.2.2.2.1⟩)
  · rw [ho]; exact O.cg (fun j _ j2 => R.2.2.2.2.2 j j2)
theorem TX.x {s : rS} {k : Nat} {h : Nat → Int → Int} {base n1 lo x x' o : Int} (T : TX s k h base n1 lo x o) (hx : x ≤ x' ∧ x' ≤ 9000) : TX s k h base n1 lo x' o := by
  obtain ⟨W, r⟩ := T
  exact ⟨W.cst ⟨W.1, Int.le_refl _⟩ ⟨Int.le_refl _, Int.le_refl _⟩ ⟨W.2.2.2.1, Int.le_refl _⟩ hx, r⟩
theorem TX.mv {s t : rS} {k : Nat} {h h' : Nat → Int → Int} {base n1 lo x o : Int} (T : TX s k h base n1 lo x o) (R : RG s t k 0) (K : GK h h' (rF s k 7) (rF t k 7) 0) (hw : rF t 0 38 = rF s 0 38) (ho : rF t 0 39 = rF s 0 39) : TX t k h' base n1 lo x o := by
  obtain ⟨W, L, S, O⟩ := T
  have W' := W.gkw (t := t) (fun j hj => R.2.2.2.2.1 j hj) K (Int.le_refl _)
  refine ⟨?_, L, ?_, ?_⟩
  · rw [hw]; exact W'.cst ⟨W.1, Int.le_refl _⟩ ⟨K.1, Int.le_refl _⟩ ⟨W.2.2.2.1, Int.le_refl _⟩ ⟨Int.le_refl _, W.2.2.2.2.2.1⟩
  · rw [hw]; exact S.cg (fun j _ j2 => (R.2.2.2.2.1 j j2).1)
  · rw [ho]; exact O.cg (fun j _ j2 => R.2.2.2.2.2 j j2)
theorem TX.F29 {s : rS} {k : Nat} {z : Int} : TX (sF s 0 29 z) k = TX s k := by
  funext h base n1 lo x o; unfold TX WD
  rw [F_sF_ne (show (7 : Nat) ≠ 29 by decide), F_sF_ne (show (38 : Nat) ≠ 29 by decide), F_sF_ne (show (39 : Nat) ≠ 29 by decide)]; rfl
/-- one word more, by its node -/
theorem TQ.one {σ t : rS} {k : Nat} {h : Nat → Int → Int} {o n1 n2 lo hi : Int} {L L' : List Int} (W : WD t k h (rF σ 0 38) (rF σ 0 38 + 1) n1 n2 lo hi) (hw : rF t 0 38 = rF σ 0 38 + 1) (h1 : 0 < rF σ k 7 ∧ rF σ k 7 ≤ n1 ∧ n2 ≤ rF t k 7) (h2 : 0 ≤ rF σ 0 29 ∧ rF σ 0 29 ≤ lo ∧ hi ≤ rF t 0 29 ∧ rF t 0 29 ≤ 9000) (hs : stp (rA t 1034 (rF σ 0 38)) L = some L') (O : OKl (rA t 1040) o (rF t 0 39) L') : TQ σ t k h o L := by
  refine ⟨?_, L', ?_, O⟩
  · rw [hw]; exact W.cst ⟨h1.1, h1.2.1⟩ ⟨h1.2.2, Int.le_refl _⟩ ⟨h2.1, h2.2.1⟩ ⟨h2.2.2.1, h2.2.2.2⟩
  · rw [hw]; exact WS.nil.snoc hs
theorem TQ.non {σ t : rS} {k : Nat} {h : Nat → Int → Int} {o : Int} {L L' : List Int} (hw : rF t 0 38 = rF σ 0 38 + 1) (h1 : 0 < rF σ k 7 ∧ rF σ k 7 ≤ rF t k 7) (h2 : 0 ≤ rF σ 0 29 ∧ rF σ 0 29 ≤ rF t 0 29 ∧ rF t 0 29 ≤ 9000) (hn : ¬ nwp (rA t 1034 (rF σ 0 38))) (hs : stp (rA t 1034 (rF σ 0 38)) L = some L') (O : OKl (rA t 1040) o (rF t 0 39) L') : TQ σ t k h o L :=
  TQ.one (WD.non hn ⟨h1.1, h1.2, Int.le_refl _, h2.1, h2.2.1, h2.2.2⟩) hw ⟨h1.1, Int.le_refl _, Int.le_refl _⟩ ⟨h2.1, Int.le_refl _, Int.le_refl _, h2.2.2⟩ hs O
/-- words that bytes alone say -/
def RWp (b : Int → Int) (a e : Int) : Prop := ∀ j, a ≤ j → j < e → b j = 3 ∨ b j = 20 ∨ b j = 21
theorem RWp.nil {b : Int → Int} {a : Int} : RWp b a a := fun j h1 h2 => absurd h1 (by omega)
theorem RWp.s {b b' : Int → Int} {a e : Int} (h : RWp b a e) (hb : ∀ j, j < e → b' j = b j) (he : b' e = 3 ∨ b' e = 20 ∨ b' e = 21) : RWp b' a (e + 1) := fun j h1 h2 => by
  by_cases q : j = e
  · rw [q]; exact he
  · rw [hb j (by omega)]; exact h j h1 (by omega)
theorem RWp.cg {b b' : Int → Int} {a e : Int} (h : RWp b a e) (hb : ∀ j, j < e → b' j = b j) : RWp b' a e := fun j h1 h2 => by rw [hb j h2]; exact h j h1 h2
theorem RWp.ws {b : Int → Int} {a : Int} {L : List Int} : ∀ (m : Nat), RWp b a (a + m) → WS b a (a + m) L L := by
  intro m
  induction m with
  | zero => intro _; rw [show a + ((0 : Nat) : Int) = a by omega]; exact WS.nil
  | succ m ih =>
    intro h
    have q := ih (fun j h1 h2 => h j h1 (by omega))
    rw [show a + ((m + 1 : Nat) : Int) = a + m + 1 by omega]
    exact q.snoc (stp_o (by have := h (a + m) (by omega) (by omega); omega))
theorem TQ.raw {σ t : rS} {k : Nat} {h : Nat → Int → Int} {o : Int} {L : List Int} (hr : RWp (rA t 1034) (rF σ 0 38) (rF t 0 38)) (hw : rF σ 0 38 ≤ rF t 0 38) (h1 : 0 < rF σ k 7 ∧ rF σ k 7 ≤ rF t k 7) (h2 : 0 ≤ rF σ 0 29 ∧ rF σ 0 29 ≤ rF t 0 29 ∧ rF t 0 29 ≤ 9000) (O : OKl (rA t 1040) o (rF t 0 39) L) : TQ σ t k h o L := by
  refine ⟨⟨h1.1, h1.2, Int.le_refl _, h2.1, h2.2.1, h2.2.2, fun j j1 j2 hq => ?_⟩, L, ?_, O⟩
  · exfalso; have := hr j j1 j2; unfold nwp at hq; omega
  · have e : rF t 0 38 = rF σ 0 38 + ((rF t 0 38 - rF σ 0 38).toNat : Int) := by omega
    rw [e] at hr ⊢
    exact RWp.ws _ hr
theorem OKl.pu {ok ok' : Int → Int} {lo hi q : Int} {L : List Int} (h : OKl ok lo hi L) (hl : lo ≤ hi) (hq : ok' hi = q) (hb : ∀ j, j < hi → ok' j = ok j) : OKl ok' lo (hi + 1) (q :: L) :=
  ⟨by omega, by rw [show hi + 1 - 1 = hi by omega]; exact hq, by rw [show hi + 1 - 1 = hi by omega]; exact h.cg (fun j a b => hb j (by omega))⟩
theorem OKl.mv {ok ok' : Int → Int} {o m : Int} {L : List Int} (h : OKl ok o m L) (he : ∀ i, ok' i = ok i) : OKl ok' o m L := h.cg (fun j _ _ => he j)
theorem OKl.mv2 {ok ok' : Int → Int} {o m m' : Int} {L : List Int} (h : OKl ok o m L) (he : ∀ i, ok' i = ok i) (hm : m' = m) : OKl ok' o m' L := by subst hm; exact h.cg (fun j _ _ => he j)
theorem OKX.push {u t : rS} {k : Nat} {o m i q y d : Int} {L : List Int} (O : OKl (rA u 1040) o m L) (R : RG (sF (sA (sF u 0 31 d) 1040 i q) 0 39 y) t k 0) (hi : i = m) (hy : y = m + 1) (ho : o ≤ m) (ht : rF t 0 39 = m + 1) : OKl (rA t 1040) o (rF t 0 39) (q :: L) := by
  subst hi hy
  rw [ht]
  have e : ∀ j, j < i + 1 → rA t 1040 j = if j = i then q else rA u 1040 j := fun j hj => (R.2.2.2.2.2 j (by rw [F_sF]; exact hj)).trans (by rw [rA_sF, rA_sA]; simp only [true_and, rA_sF])
  exact OKl.pu O ho (by rw [e i (by omega), if_pos rfl]) (fun j hj => by rw [e j (by omega), if_neg (by omega)])
theorem OKX.push2 {u t : rS} {k : Nat} {o m i q y : Int} {L : List Int} (O : OKl (rA u 1040) o m L) (R : RG (sF (sA u 1040 i q) 0 39 y) t k 0) (hi : i = m) (hy : y = m + 1) (ho : o ≤ m) (ht : rF t 0 39 = m + 1) : OKl (rA t 1040) o (rF t 0 39) (q :: L) := by
  subst hi hy
  rw [ht]
  have e : ∀ j, j < i + 1 → rA t 1040 j = if j = i then q else rA u 1040 j := fun j hj => (R.2.2.2.2.2 j (by rw [F_sF]; exact hj)).trans (by rw [rA_sF, rA_sA]; simp only [true_and])
  exact OKl.pu O ho (by rw [e i (by omega), if_pos rfl]) (fun j hj => by rw [e j (by omega), if_neg (by omega)])
theorem OKX.set {u t : rS} {k : Nat} {o m i q : Int} {L : List Int} (O : OKl (rA u 1040) o (m - 1) L) (R : RG (sA u 1040 i q) t k 0) (hi : i = m - 1) (hm : rF u 0 39 = m) (ho : o < m) (ht : rF t 0 39 = m) : OKl (rA t 1040) o (rF t 0 39) (q :: L) := by
  subst hi
  rw [ht]
  have e : ∀ j, j < m → rA t 1040 j = if j = m - 1 then q else rA u 1040 j := fun j hj => (R.2.2.2.2.2 j (by rw [rF_sA, hm]; exact hj)).trans (by rw [rA_sA]; simp only [true_and])
  exact ⟨ho, by rw [e _ (by omega), if_pos rfl], O.cg (fun j _ hj => by rw [e j (by omega), if_neg (by omega)])⟩
theorem OKX.pop {u t : rS} {k : Nat} {o m y : Int} {L : List Int} (O : OKl (rA u 1040) o m L) (R : RG (sF u 0 39 y) t k 0) (hy : y = m) (ht : rF t 0 39 = m) : OKl (rA t 1040) o (rF t 0 39) L := by
  subst hy
  rw [ht]
  exact O.cg (fun j _ hj => R.2.2.2.2.2 j (by rw [F_sF]; exact hj))
theorem OKX.same {u t : rS} {k : Nat} {o m : Int} {L : List Int} (O : OKl (rA u 1040) o m L) (R : RG u t k 0) (hm : rF u 0 39 = m) (ht : rF t 0 39 = m) : OKl (rA t 1040) o (rF t 0 39) L := by
  rw [ht]
  exact O.cg (fun j _ hj => R.2.2.2.2.2 j (by rw [hm]; exact hj))
theorem TQ.lo {s σ t : rS} {k : Nat} {h : Nat → Int → Int} {o : Int} {L : List Int} (Q : TQ s t k h o L) (hw : rF s 0 38 = rF σ 0 38) (hn : 0 < rF σ k 7 ∧ rF σ k 7 ≤ rF s k 7) (ha : 0 ≤ rF σ 0 29 ∧ rF σ 0 29 ≤ rF s 0 29) : TQ σ t k h o L := by
  obtain ⟨W, L', S, O⟩ := Q
  rw [hw] at W S
  exact ⟨W.cst hn ⟨Int.le_refl _, Int.le_refl _⟩ ha ⟨Int.le_refl _, W.2.2.2.2.2.1⟩, L', S, O⟩
theorem TX.bp {s t : rS} {k : Nat} {h : Nat → Int → Int} {base n1 lo x o : Int} (T : TX s k h base n1 lo x o) (G : GS t k h) (hw : ∀ j, j < rF s 0 38 → rA t 1034 j = rA s 1034 j ∧ rA t 1035 j = rA s 1035 j) (hN : rF t k 7 = rF s k 7) (hwd : rF t 0 38 = rF s 0 38) (ho : rF s 0 39 = o) : BPx (sF t 0 42 base) k h [] n1 (rF s k 7) lo x := by
  obtain ⟨W, L, S, O⟩ := T
  have hL := OKl.nil' O ho
  subst hL
  refine ⟨by rw [GS_F42]; exact G, ?_, ?_, by simp⟩
  · rw [WD_F42, f42, f42n (by decide), hwd]
    exact W.gkw hw (GK.up hN) (Int.le_refl _)
  · rw [f42, f42n (by decide), hwd]; exact S.cg (fun j _ j2 => (hw j j2).1)
theorem RG.bld {s t : rS} {k : Nat} {g h : Nat → Int → Int} {n1 n1' : Int} (hk : rgk k) (B : BK s t k g h n1 n1') (a1 : ∀ i, rA t (1000 * (k + 1) + 31) i = rA s (1000 * (k + 1) + 31) i) (a2 : ∀ i, rA t (1000 * (k + 1) + 33) i = rA s (1000 * (k + 1) + 33) i) (a3 : ∀ i, rA t (1000 * (k + 1) + 34) i = rA s (1000 * (k + 1) + 34) i) (a4 : ∀ i, rA t (1000 * (k + 1) + 35) i = rA s (1000 * (k + 1) + 35) i) (f1 : rF t k 32 = rF s k 32) (f2 : rF t k 38 = rF s k 38) (f3 : rF t 0 38 = rF s 0 38) (f4 : rF t 0 39 = rF s 0 39) (w1 : ∀ i, rA t 1034 i = rA s 1034 i) (w2 : ∀ i, rA t 1035 i = rA s 1035 i) (w3 : ∀ i, rA t 1040 i = rA s 1040 i) : RG (sF s k 7 n1) t k 0 := by
  have e := kq_k hk
  have t31 : ∀ i, tr t k 31 i = tr s k 31 i := fun i => by rw [← tr_rd hk (Or.inr rfl), ← tr_rd hk (Or.inr rfl)]; exact a1 i
  unfold RG RGf RGp RGw
  simp only [e, F_sF, F_sF_ne (show (32 : Nat) ≠ 7 by decide), F_sF_ne (show (38 : Nat) ≠ 7 by decide), F_sF_ne (show (39 : Nat) ≠ 7 by decide), zz_F (show (38 : Nat) ≠ 7 by decide), tr_sF, rA_sF, ck3_sF]
  refine ⟨fun f i hf hi _ => B.2.2.2.2.1 f i hf (by have := B.2.2.1; have := B.2.2.2.1; omega) (Or.inl hi), ⟨fun i _ => t31 i, fun x n _ hz => ?_, by have := B.1; have := B.2.2.1; have := B.2.2.2.1; omega, by omega, by omega, fun i _ => by unfold ck3; rw [a2, a3, a4]⟩, by omega, by omega, fun j _ => ⟨w1 j, w2 j⟩, fun j _ => w3 j⟩
  obtain ⟨j, z1, z2, z3, z4, z5⟩ := hz
  rw [e] at z2 z3 z4 z5
  exact ⟨j, z1, by rw [e]; omega, by rw [e, a2]; exact z3, by rw [e, a3]; exact z4, by rw [e, a4]; exact z5⟩
theorem RG.w38 {σ s : rS} {k : Nat} {c x : Int} (h : RG σ s k c) (hx : rF σ 0 38 ≤ x) (hk : rgk k) : RG σ (sF s 0 38 x) k c := by
  have e := kq_k hk
  unfold RG RGf RGp RGw at *
  simp only [e, F_sF, F_sF_nq (rk_n0 hk), F_sF_ne (show (39 : Nat) ≠ 38 by decide), zz_sF, tr_sF, rA_sF, ck3_sF] at h ⊢
  obtain ⟨a, b, w1, w2, w4, w5⟩ := h
  exact ⟨a, b, hx, w2, w4, w5⟩
theorem TX.out {t u : rS} {k : Nat} {h g0 : Nat → Int → Int} {n0 n1 n2 lo hi r z : Int} (Q : BQb1 (sF t 0 42 z) u k h [] n1 n2 lo hi r) (K : GK g0 h n0 (rF t k 7) 0) (hn : n0 = n1) : ∃ h', GS u k h' ∧ GK g0 h' n0 (rF u k 7) 0 ∧ (∃ n1', BK t u k h h' n1 n1') ∧ ∃ x', NR u k h' 11 r (rF t k 7) lo x' 0 ∧ x' ≤ hi := by
  obtain ⟨h', n1', x', ⟨B, G, W, S, e1, e2, e3⟩, V, hc⟩ := Q
  rw [BK_L42] at B
  rw [f42n (by decide)] at V e2
  subst hn
  refine ⟨h', G, ?_, ⟨n1', B⟩, x', V, W.2.2.2.2.1⟩
  obtain ⟨a1, a2, a3, a4, a5, a6, a7, a8⟩ := B
  obtain ⟨K1, K2, K3⟩ := K
  refine ⟨by omega, fun j m hm hj => (a6 j m (by omega) (Or.inl hm)).trans (K2 j m hm hj), fun m m1 m2 => ?_⟩
  by_cases hm : m < rF t k 7
  · by_cases hr : m < n1'
    · rcases a7 m m1 hr with q | q | q
      · exact Or.inl q
      · right; left; omega
      · rw [q.1]; exact K3 m m1 hm
    · rw [a6 3 m hm (Or.inr (by omega))]; exact K3 m m1 hm
  · have := a8 m (by omega) m2
    omega
theorem GI.c33 {N nm it : Int} {t t' g : Nat → Int → Int} (G : GI N nm t g) (hK : g 0 it = 33) (ho : g 2 it = 100000) (hv : 0 ≤ t' 3 it) (ht : ∀ f i, (f ≠ 3 ∨ i ≠ it) → t' f i = t f i) : GI N nm t' g := by
  intro m h0 h1
  obtain ⟨s, u, c, o, x, n, z⟩ := G m h0 h1
  have e := fun f (h3 : f ≠ 3) => ht f m (Or.inl h3)
  refine ⟨?_, u, ?_, ?_, ?_, ?_, ?_⟩
  · unfold gS at *
    rw [e 0 (by decide), e 1 (by decide), e 2 (by decide), e 4 (by decide)]
    by_cases hm : m = it
    · subst hm
      obtain ⟨s1, s2, s3, s4, s5, s6, s7, s8, s9, s10, s11, s12, s13, s14, s15, s16, s17⟩ := s
      exact ⟨s1, s2, s3, s4, s5, s6, s7, s8, s9, s10, s11, s12, s13, s14, fun h => ⟨hv, fun h9 => absurd h9 (by omega)⟩, fun h => absurd h (by omega), s17⟩
    · rw [ht 3 m (Or.inr hm)]; exact s
  · intro f K' hf hK'
    have h13 := tb_13 hf
    by_cases hm : m = it
    · subst hm
      have : K' = 33 := by omega
      subst this
      rw [e f (tb_c hf rfl)]; exact c f 33 hf hK'
    · rw [ht f m (Or.inr hm)]; exact c f K' hf hK'
  · intro K' hK' hO
    have o' := o K' hK' hO
    rw [e 1 (by decide), e 2 (by decide)]
    refine ⟨o'.1, fun k41 => ?_⟩
    have hm : m ≠ it := fun E => by subst E; omega
    rw [ht 3 m (Or.inr hm)]; exact o'.2 k41
  · unfold gX at *; rw [e 5 (by decide)]; exact x
  · unfold gN at *; rw [e 5 (by decide)]; exact n
  · unfold gG at *; rw [e 1 (by decide)]; exact z
theorem GS.c33 {s : rS} {k : Nat} {g : Nat → Int → Int} {it d lo x y e z : Int} (hk : rgk k) (G : GS s k g) (O : OP s k g it 33 d lo x y e) (hz : 0 ≤ z) : GS (sT s k 3 it z) k g := by
  refine ⟨?_, GQ.stt hk (by decide) G.2 (Or.inl (by decide))⟩
  unfold GS0; rw [tr_u hk (by decide)]
  exact GI.c33 G.1 O.2.2.1 O.2.2.2.2.1 (by rw [udt_eq]; exact hz) (fun f i h => udt_ne h)
theorem KS.n6 {g g' : Nat → Int → Int} {it v : Int} {f K : Nat} (h : KS g g' it v f K) (hc : cn f K = true := by decide) : g' 6 it = g 6 it + 1 := by have := h.2.2.2.2.2.1; rw [if_pos hc] at this; exact this
theorem KS.n6f {g g' : Nat → Int → Int} {it v : Int} {f K : Nat} (h : KS g g' it v f K) (hc : cn f K = false := by decide) : g' 6 it = g 6 it := by have := h.2.2.2.2.2.1; rw [if_neg (by rw [hc]; decide)] at this; exact this
def SB3 (b : Int → Int) (n r q : Int) : Prop := ∀ w, BE b n q w → (w = r ∧ b w = 124) ∨ (w < n ∧ b w = 44 ∧ SBp b n r (w + 1))
theorem SBp.step2 {b : Int → Int} {n r k p q : Int} (h : SBp b n r k) (hr : k < r) (hn : r < n) (h1 : BE b n k p) (h2 : WE b n p q) : p < q ∧ p < n ∧ q ≤ n ∧ SB3 b n r q := by
  rcases h with h | ⟨m, h⟩
  · omega
  · cases m with
    | zero => exact h.elim
    | succ m =>
      obtain ⟨k1, k2, k3, g1, g2, g3, g4, g5⟩ := h
      have e1 := BE.uniq h1 g1 (by omega)
      subst e1
      have pn : p ≤ n := by rcases h1.2.1 with x | x <;> omega
      have e2 := WE.uniq h2 g2 pn
      subst e2
      have w1 := h2.2.2.1 g3
      have qn : q ≤ n := by rcases h2.2.1 with x | x <;> omega
      refine ⟨g3, w1.1, qn, fun w hw => ?_⟩
      have e3 := BE.uniq hw g4 qn
      subst e3
      rcases g5 with x | x
      · exact Or.inl ⟨x.1, by rw [x.1]; exact x.2.2⟩
      · exact Or.inr ⟨x.1, x.2.1, Or.inr ⟨m, x.2.2⟩⟩
theorem rNMp.of {s : rS} {k : Nat} (h : rNM s k) (e : rR s 7 = k) (hk : rgk k) : rNMp s := ⟨by rw [e]; exact hk, by rw [e]; exact h⟩
theorem rNMp.to {s : rS} {k : Nat} (h : rNMp s) (e : rR s 7 = k) : rNM s k := by subst e; exact h.2
theorem RQ.key {s : rS} {k f K : Nat} {it p q : Int} (h : RQ s k it f K p) (e : q = p) : RQ s k it f K q := by subst e; exact h
theorem pF {s : rS} {k f : Nat} {i0 z i a b c d : Int} (hk : rgk k) : rF (sF (sA (sA (sA (sT s k 3 i0 z) (1000 * (k + 1) + 29) i a) (1000 * (k + 1) + 30) i b) (1000 * (k + 1) + 31) i c) k 32 d) 0 f = rF s 0 f := F_sF_nq (Ne.symm (rk_n0 hk))
theorem pA {s : rS} {k p : Nat} {i0 z i a b c d j : Int} (hk : rgk k) (hp : p < 2000) : rA (sF (sA (sA (sA (sT s k 3 i0 z) (1000 * (k + 1) + 29) i a) (1000 * (k + 1) + 30) i b) (1000 * (k + 1) + 31) i c) k 32 d) p j = rA s p j := by
  have k1 : 1 ≤ k := by rcases hk with rfl | rfl | rfl <;> decide
  rw [rA_sF, A_sA_ne (by omega), A_sA_ne (by omega), A_sA_ne (by omega)]
  exact A_sA_ne (by omega)
theorem TPRp.prt {s : rS} {k : Nat} {i0 z i a b c d : Int} (hk : rgk k) (h : TPRp s) : TPRp (sF (sA (sA (sA (sT s k 3 i0 z) (1000 * (k + 1) + 29) i a) (1000 * (k + 1) + 30) i b) (1000 * (k + 1) + 31) i c) k 32 d) := by
  unfold TPRp at *
  simp only [pF hk, pA hk (show 1027 < 2000 by decide)]
  exact h
theorem WNp.prt {s : rS} {k : Nat} {i0 z i a b c d : Int} (hk : rgk k) (h : WNp s) : WNp (sF (sA (sA (sA (sT s k 3 i0 z) (1000 * (k + 1) + 29) i a) (1000 * (k + 1) + 30) i b) (1000 * (k + 1) + 31) i c) k 32 d) := by
  unfold WNp at *
  simp only [pF hk, pA hk (show 1034 < 2000 by decide), pA hk (show 1035 < 2000 by decide), pA hk (show 1036 < 2000 by decide), pA hk (show 1037 < 2000 by decide)]
  exact h
theorem CCp.prt {s : rS} {k : Nat} {i0 z i a b c d : Int} (hk : rgk k) (h : CCp s) : CCp (sF (sA (sA (sA (sT s k 3 i0 z) (1000 * (k + 1) + 29) i a) (1000 * (k + 1) + 30) i b) (1000 * (k + 1) + 31) i c) k 32 d) := by
  unfold CCp at *
  simp only [pF hk]
  exact ⟨TPRp.prt hk h.1, h.2⟩
theorem rNMp.prt {s : rS} {k : Nat} {i0 z i a b c d : Int} (hk : rgk k) (h : rNMp s) : rNMp (sF (sA (sA (sA (sT s k 3 i0 z) (1000 * (k + 1) + 29) i a) (1000 * (k + 1) + 30) i b) (1000 * (k + 1) + 31) i c) k 32 d) := by
  have e : ∀ q, rgk q → rF (sF (sA (sA (sA (sT s k 3 i0 z) (1000 * (k + 1) + 29) i a) (1000 * (k + 1) + 30) i b) (1000 * (k + 1) + 31) i c) k 32 d) q 12 = rF s q 12 ∧ rF (sF (sA (sA (sA (sT s k 3 i0 z) (1000 * (k + 1) + 29) i a) (1000 * (k + 1) + 30) i b) (1000 * (k + 1) + 31) i c) k 32 d) q 9 = rF s q 9 := fun q _ => ⟨F_sF_ne (by decide), F_sF_ne (by decide)⟩
  have e2 : ∀ q j, rgk q → rA (sF (sA (sA (sA (sT s k 3 i0 z) (1000 * (k + 1) + 29) i a) (1000 * (k + 1) + 30) i b) (1000 * (k + 1) + 31) i c) k 32 d) (1000 * (q + 1) + 10) j = rA s (1000 * (q + 1) + 10) j ∧ rA (sF (sA (sA (sA (sT s k 3 i0 z) (1000 * (k + 1) + 29) i a) (1000 * (k + 1) + 30) i b) (1000 * (k + 1) + 31) i c) k 32 d) (1000 * (q + 1) + 11) j = rA s (1000 * (q + 1) + 11) j := fun q j _ => by
    constructor
    · rw [rA_sF, A_sA_ne (by omega), A_sA_ne (by omega), A_sA_ne (by omega)]; exact A_sA_ne (by omega)
    · rw [rA_sF, A_sA_ne (by omega), A_sA_ne (by omega), A_sA_ne (by omega)]; exact A_sA_ne (by omega)
  obtain ⟨hq, h⟩ := h
  refine ⟨hq, ?_⟩
  unfold rNM at *
  have q1 := e (rR s 7) hq
  show 0 ≤ rF (sF (sA (sA (sA (sT s k 3 i0 z) (1000 * (k + 1) + 29) i a) (1000 * (k + 1) + 30) i b) (1000 * (k + 1) + 31) i c) k 32 d) (rR s 7) 12 ∧ 0 ≤ rF (sF (sA (sA (sA (sT s k 3 i0 z) (1000 * (k + 1) + 29) i a) (1000 * (k + 1) + 30) i b) (1000 * (k + 1) + 31) i c) k 32 d) (rR s 7) 9 ∧ ∀ j, 0 ≤ j → j < rF (sF (sA (sA (sA (sT s k 3 i0 z) (1000 * (k + 1) + 29) i a) (1000 * (k + 1) + 30) i b) (1000 * (k + 1) + 31) i c) k 32 d) (rR s 7) 12 → _
  rw [q1.1, q1.2]
  refine ⟨h.1, h.2.1, fun j j0 j1 => ?_⟩
  have q2 := e2 (rR s 7) j hq
  have q3 := h.2.2 j j0 j1
  rw [← q2.1, ← q2.2] at q3
  exact ⟨q3.1, q3.2.1, Int.le_trans q3.2.2 (Int.le_of_eq q1.2.symm)⟩
theorem fz_to {s : rS} (h : fz s = 0) : rF s 0 10 = 0 := by unfold fz at h; split at h <;> omega
theorem WNp.dn {s : rS} {x : Int} (h : WNp s) (hx : x ≤ rF s 0 38) : WNp (sF s 0 38 x) := by
  unfold WNp at *
  intro j j0 j1
  rw [F_sF] at j1
  exact h j j0 (by omega)

