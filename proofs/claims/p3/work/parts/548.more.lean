theorem ZL.cst {s : rS} {k : Nat} {g : Nat → Int → Int} {F l n lo x d n' lo' x' d' : Int} (Z : ZL s k g F l n lo x d) (h1 : n = n' := by omega) (h2 : lo' ≤ lo := by omega) (h3 : x ≤ x' := by omega) (h4 : d = d' := by omega) (h5 : 0 ≤ lo' ∧ x' ≤ 9000 := by omega) : ZL s k g F l n' lo' x' d' := by
  subst h1 h4
  obtain ⟨z1, z2, z3, z4, z5, z6, z7, z8, z9, z10, z11, z12, z13, z14, z15, z16⟩ := Z
  refine ⟨z1, z2, z3, z4, z5, z6, z7, z8, z9, z10, z11, z12, h5.1, by omega, h5.2, fun m a b c => ?_⟩
  have q := z16 m a b c
  exact ⟨q.1, q.2.1, q.2.2.1, by have := q.2.2.2.1; omega, by have := q.2.2.2.2.1; omega, q.2.2.2.2.2⟩
theorem NR.key {s : rS} {k S : Nat} {g : Nat → Int → Int} {v w n0 lo hi d : Int} (V : NR s k g S v n0 lo hi d) (h : w = v) : NR s k g S w n0 lo hi d := by subst h; exact V
theorem LI.key {s : rS} {k f K : Nat} {g : Nat → Int → Int} {it l w : Int} (L : LI s k g it f K l) (h : w = l) : LI s k g it f K w := by subst h; exact L
/-! what a scan of blanks, of a word, of the names ahead of a bar leaves -/
def BLp (x : Int) : Prop := x = 32 ∨ x = 9 ∨ x = 10
def WCp (x : Int) : Prop := LTp x ∨ 48 ≤ x ∧ x ≤ 57
def BB (b : Int → Int) (k k' : Int) : Prop := ∀ j, k ≤ j → j < k' → BLp (b j)
def WB (b : Int → Int) (k k' : Int) : Prop := ∀ j, k ≤ j → j < k' → WCp (b j)
def BE (b : Int → Int) (n k k' : Int) : Prop := k ≤ k' ∧ (k' ≤ n ∨ k' = k) ∧ BB b k k' ∧ (k' < n → ¬ BLp (b k'))
def WE (b : Int → Int) (n k k' : Int) : Prop := k ≤ k' ∧ (k' ≤ n ∨ k' = k) ∧ (k < k' → k < n ∧ LTp (b k)) ∧ (k < n → LTp (b k) → k < k') ∧ (k < k' → WB b k k' ∧ (k' < n → ¬ WCp (b k')))
theorem BB.rf {b : Int → Int} {k : Int} : BB b k k := fun j h1 h2 => absurd h1 (by omega)
theorem WB.rf {b : Int → Int} {k : Int} : WB b k k := fun j h1 h2 => absurd h1 (by omega)
theorem BB.s {b : Int → Int} {k k' : Int} (h : BB b k k') (hb : BLp (b k')) : BB b k (k' + 1) := fun j h1 h2 => by
  by_cases e : j = k'
  · rw [e]; exact hb
  · exact h j h1 (by omega)
theorem WB.s {b : Int → Int} {k k' : Int} (h : WB b k k') (hb : WCp (b k')) : WB b k (k' + 1) := fun j h1 h2 => by
  by_cases e : j = k'
  · rw [e]; exact hb
  · exact h j h1 (by omega)
theorem BE.uniq {b : Int → Int} {n k p q : Int} (h : BE b n k p) (h' : BE b n k q) (hk : k ≤ n) : p = q := by
  obtain ⟨a1, a2, a3, a4⟩ := h
  obtain ⟨b1, b2, b3, b4⟩ := h'
  by_cases e : p = q
  · exact e
  · exfalso
    by_cases l : p < q
    · exact a4 (by omega) (b3 p a1 l)
    · exact b4 (by omega) (a3 q b1 (by omega))
theorem WE.uniq {b : Int → Int} {n k p q : Int} (h : WE b n k p) (h' : WE b n k q) (hk : k ≤ n) : p = q := by
  obtain ⟨a1, a2, a3, a4, a5⟩ := h
  obtain ⟨b1, b2, b3, b4, b5⟩ := h'
  by_cases e : p = q
  · exact e
  · exfalso
    by_cases l : p < q
    · have w := b3 (by omega)
      have kp := a4 w.1 w.2
      exact (a5 kp).2 (by omega) ((b5 (by omega)).1 p a1 l)
    · have w := a3 (by omega)
      have kq := b4 w.1 w.2
      exact (b5 kq).2 (by omega) ((a5 (by omega)).1 q b1 (by omega))
def BC (b : Int → Int) (n r : Int) : Nat → Int → Prop
  | 0, _ => False
  | m + 1, k => ∃ k1 k2 k3, BE b n k k1 ∧ WE b n k1 k2 ∧ k1 < k2 ∧ BE b n k2 k3 ∧ ((k3 = r ∧ r < n ∧ b r = 124) ∨ (k3 < n ∧ b k3 = 44 ∧ BC b n r m (k3 + 1)))
theorem BC.le {b : Int → Int} {n r : Int} : ∀ {m : Nat} {k : Int}, BC b n r m k → k < r ∧ r < n := by
  intro m
  induction m with
  | zero => intro k h; exact h.elim
  | succ m ih =>
    intro k h
    obtain ⟨k1, k2, k3, h1, h2, h3, h4, h5⟩ := h
    have a := h1.1
    have c := h4.1
    rcases h5 with q | ⟨q1, q2, q3⟩
    · omega
    · have := ih q3; omega
theorem BC.step {b : Int → Int} {n r k p q w : Int} {m : Nat} (h : BC b n r m k) (h1 : BE b n k p) (h2 : WE b n p q) (h3 : BE b n q w) (hk : k ≤ n) : p < q ∧ p < n ∧ q ≤ n ∧ ((w = r ∧ b r = 124) ∨ (w < n ∧ b w = 44 ∧ ∃ m', BC b n r m' (w + 1))) := by
  cases m with
  | zero => exact h.elim
  | succ m =>
    obtain ⟨k1, k2, k3, g1, g2, g3, g4, g5⟩ := h
    have e1 := BE.uniq h1 g1 hk
    subst e1
    have pn : p ≤ n := by rcases h1.2.1 with x | x <;> omega
    have e2 := WE.uniq h2 g2 pn
    subst e2
    have w1 := h2.2.2.1 g3
    have qn : q ≤ n := by rcases h2.2.1 with x | x <;> omega
    have e3 := BE.uniq h3 g4 qn
    subst e3
    refine ⟨g3, w1.1, qn, ?_⟩
    rcases g5 with x | x
    · exact Or.inl ⟨x.1, x.2.2⟩
    · exact Or.inr ⟨x.1, x.2.1, m, x.2.2⟩
def CH (b : Int → Int) (n k0 k : Int) : Prop := ∀ (r : Int) (m : Nat), BC b n r m k → ∃ m', BC b n r m' k0
def JE (b : Int → Int) (n k0 k : Int) : Prop := ∃ ka k1 k2, CH b n k0 ka ∧ BE b n ka k1 ∧ WE b n k1 k2 ∧ k1 < k2 ∧ BE b n k2 k
def J7 (b : Int → Int) (n k0 k more : Int) : Prop := (more = 1 ∧ CH b n k0 k) ∨ (more = 0 ∧ JE b n k0 k)
def J11 (b : Int → Int) (n k0 k : Int) : Prop := ∃ ka, CH b n k0 ka ∧ ka ≤ k ∧ (k ≤ n ∨ k = ka) ∧ BB b ka k
def J59 (b : Int → Int) (n k0 k : Int) : Prop := ∃ ka k1 k2, CH b n k0 ka ∧ BE b n ka k1 ∧ WE b n k1 k2 ∧ k1 < k2 ∧ k2 ≤ k ∧ (k ≤ n ∨ k = k2) ∧ BB b k2 k
theorem J7.i {b : Int → Int} {n k0 : Int} : J7 b n k0 k0 1 := Or.inl ⟨rfl, fun r m h => ⟨m, h⟩⟩
theorem J11.i {b : Int → Int} {n k0 k more : Int} (h : J7 b n k0 k more) (hm : more ≠ 0) : J11 b n k0 k := by
  rcases h with h | h
  · exact ⟨k, h.2, Int.le_refl _, Or.inr rfl, BB.rf⟩
  · exact absurd h.1 hm
theorem J11.s {b : Int → Int} {n k0 k : Int} (h : J11 b n k0 k) (hn : k < n) (hb : BLp (b k)) : J11 b n k0 (k + 1) := by
  obtain ⟨ka, h1, h2, h3, h4⟩ := h
  exact ⟨ka, h1, by omega, by omega, h4.s hb⟩
theorem J59.i {b : Int → Int} {n k0 k k2 : Int} (h : J11 b n k0 k) (hb : k < n → ¬ BLp (b k)) (hw : WE b n k k2) (hk : k2 ≠ k) : J59 b n k0 k2 := by
  obtain ⟨ka, h1, h2, h3, h4⟩ := h
  have := hw.1
  exact ⟨ka, k, k2, h1, ⟨h2, h3, h4, hb⟩, hw, by omega, Int.le_refl _, Or.inr rfl, BB.rf⟩
theorem J59.s {b : Int → Int} {n k0 k : Int} (h : J59 b n k0 k) (hn : k < n) (hb : BLp (b k)) : J59 b n k0 (k + 1) := by
  obtain ⟨ka, k1, k2, h1, h2, h3, h4, h5, h6, h7⟩ := h
  exact ⟨ka, k1, k2, h1, h2, h3, h4, by omega, by omega, h7.s hb⟩
theorem J7.m {b : Int → Int} {n k0 k : Int} (h : J59 b n k0 k) (hb : k < n → ¬ BLp (b k)) (hn : k < n) (hc : b k = 44) : J7 b n k0 (k + 1) 1 := by
  obtain ⟨ka, k1, k2, h1, h2, h3, h4, h5, h6, h7⟩ := h
  exact Or.inl ⟨rfl, fun r m q => h1 r (m + 1) ⟨k1, k2, k, h2, h3, h4, ⟨h5, h6, h7, hb⟩, Or.inr ⟨hn, hc, q⟩⟩⟩
theorem J7.e {b : Int → Int} {n k0 k : Int} (h : J59 b n k0 k) (hb : k < n → ¬ BLp (b k)) : J7 b n k0 k 0 := by
  obtain ⟨ka, k1, k2, h1, h2, h3, h4, h5, h6, h7⟩ := h
  exact Or.inr ⟨rfl, ka, k1, k2, h1, h2, h3, h4, h5, h6, h7, hb⟩
theorem J7.o {b : Int → Int} {n k0 k more : Int} (h : J7 b n k0 k more) (hm : more = 0) (hn : k < n) (hc : b k = 124) : ∃ m, BC b n k m k0 := by
  rcases h with h | ⟨_, ka, k1, k2, h1, h2, h3, h4, h5⟩
  · omega
  · exact h1 k 1 ⟨k1, k2, k, h2, h3, h4, h5, Or.inl ⟨rfl, hn, hc⟩⟩
def BX (b : Int → Int) (n r k : Int) : Prop := ∃ m, BC b n r m k
def SBp (b : Int → Int) (n r k : Int) : Prop := k = r ∨ BX b n r k
theorem SBp.le {b : Int → Int} {n r k : Int} (h : SBp b n r k) : k ≤ r := by
  rcases h with h | ⟨m, h⟩
  · omega
  · have := h.le; omega
theorem SBp.step {b : Int → Int} {n r k p q w : Int} (h : SBp b n r k) (hr : k < r) (hn : r < n) (h1 : BE b n k p) (h2 : WE b n p q) (h3 : BE b n q w) : p < q ∧ p < n ∧ q ≤ n ∧ ((w = r ∧ b w = 124) ∨ (w < n ∧ b w = 44 ∧ SBp b n r (w + 1))) := by
  rcases h with h | ⟨m, h⟩
  · omega
  · obtain ⟨a, c, d, e⟩ := BC.step h h1 h2 h3 (by omega)
    refine ⟨a, c, d, ?_⟩
    rcases e with x | ⟨x1, x2, m', x3⟩
    · left; rw [x.1]; exact ⟨rfl, x.2⟩
    · exact Or.inr ⟨x1, x2, Or.inr ⟨m', x3⟩⟩
/-! a row that is gone along -/
def RQ (s : rS) (k : Nat) (it : Int) (f K : Nat) (p : Int) : Prop := ∃ h, GS s k h ∧ h 0 it = (K : Int) ∧ 0 < it ∧ it < rF s k 7 ∧ (p = 0 ∨ (0 < p ∧ p < rF s k 7 ∧ h 3 p = it ∧ h 8 p = (f : Int)))
theorem RQ.rd {s : rS} {k f K : Nat} {it p : Int} (h : RQ s k it f K p) : p = 0 ∨ 0 < p ∧ p < rF s k 7 := by
  obtain ⟨g, a, b, c, d, e⟩ := h; omega
theorem RQ.init {s : rS} {k f K : Nat} {g : Nat → Int → Int} {it d lo x y e : Int} (G : GS s k g) (O : OP s k g it K d lo x y e) (hf : tb f K ≠ 0 := by decide) (h52 : K ≠ 52 := by decide) : RQ s k it f K (tr s k f it) :=
  ⟨g, G, O.2.2.1, O.1, O.2.1, GS.fst G O.1 O.2.1 O.2.2.1 hf h52⟩
theorem RQ.nxt {s : rS} {k f K : Nat} {it p : Int} (h : RQ s k it f K p) (hp : p ≠ 0) (h10 : tb f K ≠ 11 ∧ tb f K ≠ 12 ∧ tb f K ≠ 13 := by decide) : RQ s k it f K (tr s k 5 p) ∧ (tr s k 5 p = 0 ∨ p < tr s k 5 p ∧ tr s k 5 p < rF s k 7) := by
  obtain ⟨g, a, b, c, d, e⟩ := h
  rcases e with e | e
  · exact absurd e hp
  · have q := (GS.nxt a e.1 e.2.1 e.2.2.1 e.2.2.2 c b h10).2
    refine ⟨⟨g, a, b, c, d, ?_⟩, ?_⟩
    · rcases q with q | q
      · exact Or.inl q
      · exact Or.inr ⟨by omega, q.2.1, q.2.2.1, q.2.2.2⟩
    · rcases q with q | q
      · exact Or.inl q
      · exact Or.inr ⟨q.1, q.2.1⟩
theorem RQ.mv {s t : rS} {k f K : Nat} {it p : Int} (hk : rgk k) (h : RQ s k it f K p) (R : RG s t k 0) (hN : rF t k 7 = rF s k 7 := by omega) (hn : rF s k 12 ≤ rF t k 12 := by omega) (hC : rF t k 38 = rF s k 38 := by first | assumption | omega | (simp only [rF_sT, rF_sA]; omega)) : RQ t k it f K p := by
  obtain ⟨g, a, b, c, d, e⟩ := h
  exact ⟨g, GS.mv hk a R hN hn hC, b, c, by omega, by omega⟩
