/-! THE TREE IN THE STATE -/
/-- the tree's arrays of group k: 0 .. 5 of nodes, 31 of regions -/
def tr (σ : rS) (k : Nat) : Nat → Int → Int := fun f i => if f < 6 ∨ f = 31 then rA σ (1000 * (k + 1) + 2000 * (1 - k) + f) i else 0
def udt (t : Nat → Int → Int) (f : Nat) (i x : Int) : Nat → Int → Int := fun f' i' => if f' = f ∧ i' = i then x else t f' i'
theorem udt_eq {t : Nat → Int → Int} {f : Nat} {i x : Int} : udt t f i x f i = x := if_pos ⟨rfl, rfl⟩
theorem udt_ne {t : Nat → Int → Int} {f f' : Nat} {i i' x : Int} (h : f' ≠ f ∨ i' ≠ i) : udt t f i x f' i' = t f' i' := if_neg (by rintro ⟨a, b⟩; subst a b; simp at h)
def kq (k : Nat) : Nat := k + (1 - k)
theorem kq_k {k : Nat} (h : rgk k) : kq k = k := by rcases h with rfl | rfl | rfl <;> rfl
theorem kq_0 {k : Nat} : kq k ≠ 0 := by unfold kq; omega
theorem kq_1 {k : Nat} : 1 ≤ kq k := by unfold kq; omega
theorem tr_sF {σ : rS} {q f k : Nat} {x : Int} : tr (sF σ q f x) k = tr σ k := rfl
theorem tr_sL {σ : rS} {q k : Nat} {i : Int} {x : Int64} : tr (sL σ q i x) k = tr σ k := rfl
theorem tr_sR {σ : rS} {q k v : Nat} : tr (sR σ q v) k = tr σ k := rfl
theorem tr_out {σ : rS} {p k : Nat} {i x : Int} (h : p < 2000 ∨ (6 ≤ p % 1000 ∧ p % 1000 ≠ 31)) : tr (sA σ p i x) k = tr σ k := by
  funext f j
  unfold tr
  split
  · rw [A_sA_ne (by omega)]
  · rfl
theorem tr_in {σ : rS} {f k : Nat} {i x : Int} (hk : rgk k) (hf : f < 6 ∨ f = 31) : tr (sA σ (1000 * (k + 1) + f) i x) k = udt (tr σ k) f i x := by
  have hk1 : 1 - k = 0 := by rcases hk with rfl | rfl | rfl <;> rfl
  funext f' j
  unfold udt
  show (if f' < 6 ∨ f' = 31 then rA (sA σ (1000 * (k + 1) + f) i x) (1000 * (k + 1) + 2000 * (1 - k) + f') j else 0) = (if f' = f ∧ j = i then x else (if f' < 6 ∨ f' = 31 then rA σ (1000 * (k + 1) + 2000 * (1 - k) + f') j else 0))
  rw [hk1]
  by_cases h : f' < 6 ∨ f' = 31
  · rw [if_pos h, if_pos h]
    by_cases h2 : f' = f ∧ j = i
    · rw [if_pos h2, h2.1, h2.2]; exact A_sA _ _ _ _
    · rw [if_neg h2]
      show (if (1000 * (k + 1) + 2000 * 0 + f' = 1000 * (k + 1) + f ∧ j = i) then x else _) = _
      rw [if_neg (fun e => h2 ⟨by omega, e.2⟩)]; rfl
  · rw [if_neg h, if_neg (fun e : f' = f ∧ j = i => h (e.1 ▸ hf)), if_neg h]
theorem tr_rd {σ : rS} {f k : Nat} {i : Int} (hk : rgk k) (hf : f < 6 ∨ f = 31) : rA σ (1000 * (k + 1) + f) i = tr σ k f i := by
  have hk1 : 1 - k = 0 := by rcases hk with rfl | rfl | rfl <;> rfl
  unfold tr; rw [if_pos hf, hk1]; rfl
/-- a check of a SUB's many -/
def zz (σ : rS) (k : Nat) (s n : Int) : Prop := ∃ j, 0 ≤ j ∧ j < rF σ (kq k) 38 ∧ rA σ (1000 * (kq k + 1) + 33) j = 33 ∧ rA σ (1000 * (kq k + 1) + 34) j = s ∧ rA σ (1000 * (kq k + 1) + 35) j = n
theorem zz_sF {σ : rS} {f k : Nat} {x : Int} : zz (sF σ 0 f x) k = zz σ k := by
  funext s n
  unfold zz
  simp only [F_sF_nq kq_0, rA_sF]
theorem zz_sL {σ : rS} {q k : Nat} {i : Int} {x : Int64} : zz (sL σ q i x) k = zz σ k := rfl
theorem zz_out {σ : rS} {p k : Nat} {i x : Int} (h : p < 2000 ∨ (p % 1000 ≠ 33 ∧ p % 1000 ≠ 34 ∧ p % 1000 ≠ 35)) : zz (sA σ p i x) k = zz σ k := by
  have hq : 1 ≤ kq k := by unfold kq; omega
  funext s n
  unfold zz
  have e3 : ∀ j, rA (sA σ p i x) (1000 * (kq k + 1) + 33) j = rA σ (1000 * (kq k + 1) + 33) j := fun j => A_sA_ne (by omega)
  have e4 : ∀ j, rA (sA σ p i x) (1000 * (kq k + 1) + 34) j = rA σ (1000 * (kq k + 1) + 34) j := fun j => A_sA_ne (by omega)
  have e5 : ∀ j, rA (sA σ p i x) (1000 * (kq k + 1) + 35) j = rA σ (1000 * (kq k + 1) + 35) j := fun j => A_sA_ne (by omega)
  simp only [rF_sA, e3, e4, e5]
def TS (σ : rS) (k : Nat) : Nat → Int → Int → Int → Int → Int → Int → Int → Int → Int → Int → Prop := TT (tr σ k) (zz σ k)
theorem TS_sF {σ : rS} {f k : Nat} {x : Int} : TS (sF σ 0 f x) k = TS σ k := by unfold TS; rw [tr_sF, zz_sF]
theorem TS_sL {σ : rS} {q k : Nat} {i : Int} {x : Int64} : TS (sL σ q i x) k = TS σ k := rfl
theorem TS_out {σ : rS} {p k : Nat} {i x : Int} (h : p < 2000 ∨ (6 ≤ p % 1000 ∧ p % 1000 ≠ 31 ∧ p % 1000 ≠ 33 ∧ p % 1000 ≠ 34 ∧ p % 1000 ≠ 35)) : TS (sA σ p i x) k = TS σ k := by unfold TS; rw [tr_out (by omega), zz_out (by omega)]
theorem TS.le {σ : rS} {k S : Nat} {x y d w lo hi p q u v : Int} (h : TS σ k S x y d w lo hi p q u v) : lo ≤ hi ∧ p ≤ q ∧ u ≤ v ∧ 0 ≤ w := TT.le h
theorem TS.st {σ : rS} {k S f : Nat} {x y d w lo hi p q u v i z : Int} (hk : rgk k) (hf : f < 6) (h : TS σ k S x y d w lo hi p q u v) (hi1 : i < lo ∨ hi ≤ i) (hi2 : i < p ∨ q ≤ i) : TS (sA σ (1000 * (k + 1) + f) i z) k S x y d w lo hi p q u v := by
  unfold TS at *
  rw [tr_in hk (Or.inl hf), zz_out (Or.inr (by omega))]
  exact h.fr (fun f' i' hf' => udt_ne (by omega)) (fun _ _ _ h => h)
theorem TS.st5 {σ : rS} {k S : Nat} {x d w lo hi p q u v z : Int} (hk : rgk k) (hS : S < 100) (h : TS σ k S x 0 d w lo hi p q u v) : TS (sA σ (1000 * (k + 1) + 5) x z) k S x 0 d w lo hi p q u v := by
  unfold TS at *
  rw [tr_in hk (Or.inl (by decide)), zz_out (Or.inr (by omega))]
  exact h.fr5 hS (fun f' i' hf' h2 => udt_ne (by omega))
/-- a list in progress: head h, last l -/
def LQ (σ : rS) (k S : Nat) (h l d w lo hi u v : Int) : Prop := (l = 0 ∧ h = 0 ∧ w = 0 ∧ lo ≤ hi ∧ u = v) ∨ (l ≠ 0 ∧ h ≠ 0 ∧ ∃ m a w1 w2, TS σ k (100 + S) h l d w1 lo m 0 0 u a ∧ TS σ k S l 0 d w2 m hi 0 0 a v ∧ tr σ k 5 l = 0 ∧ m ≤ l ∧ l < hi ∧ w = w1 + w2)
theorem LQ_sF {σ : rS} {f k : Nat} {x : Int} : LQ (sF σ 0 f x) k = LQ σ k := by unfold LQ; simp only [TS_sF, tr_sF]
theorem LQ_sL {σ : rS} {q k : Nat} {i : Int} {x : Int64} : LQ (sL σ q i x) k = LQ σ k := rfl
theorem LQ_out {σ : rS} {p k : Nat} {i x : Int} (h : p < 2000 ∨ (6 ≤ p % 1000 ∧ p % 1000 ≠ 31 ∧ p % 1000 ≠ 33 ∧ p % 1000 ≠ 34 ∧ p % 1000 ≠ 35)) : LQ (sA σ p i x) k = LQ σ k := by unfold LQ; simp only [TS_out h, tr_out (σ := σ) (k := k) (i := i) (x := x) (p := p) (by omega)]
theorem LQ.le {σ : rS} {k S : Nat} {h l d w lo hi u v : Int} (q : LQ σ k S h l d w lo hi u v) : lo ≤ hi ∧ u ≤ v ∧ 0 ≤ w := by
  rcases q with q | ⟨_, _, m, a, w1, w2, e1, e2, _⟩
  · omega
  · have := e1.le; have := e2.le; omega
theorem LQ.nil {σ : rS} {k S : Nat} {d lo hi u : Int} (h : lo ≤ hi) : LQ σ k S 0 0 d 0 lo hi u u := Or.inl ⟨rfl, rfl, rfl, h, rfl⟩
theorem LQ.one {σ : rS} {k S : Nat} {x d w lo hi u v : Int} (hS : S < 100) (h : TS σ k S x 0 d w lo hi 0 0 u v) (h5 : tr σ k 5 x = 0) (hx : lo ≤ x ∧ x < hi ∧ x ≠ 0) : LQ σ k S x x d w lo hi u v :=
  Or.inr ⟨hx.2.2, hx.2.2, lo, u, 0, w, TT.nil (by omega) (by omega), h, h5, hx.1, hx.2.1, by omega⟩
theorem LQ.done {σ : rS} {k S : Nat} {h l d w lo hi u v : Int} (hS : S < 100) (q : LQ σ k S h l d w lo hi u v) : TS σ k (100 + S) h 0 d w lo hi 0 0 u v := by
  rcases q with ⟨a, b, c, e, g⟩ | ⟨a, b, m, a', w1, w2, e1, e2, e3, e4, e5, e6⟩
  · subst b c g; exact TT.nil (by omega) (by omega)
  · subst e6
    have e2' : TT (tr σ k) (zz σ k) (100 + S - 100) l 0 d w2 m hi 0 0 a' v := by rw [Nat.add_sub_cancel_left]; exact e2
    exact TT.snoc e1 (by omega) a e2' (by omega) (by omega) e3
theorem LQ.st {σ : rS} {k S f : Nat} {h l d w lo hi u v i z : Int} (hk : rgk k) (hf : f < 6) (q : LQ σ k S h l d w lo hi u v) (h1 : i < lo ∨ hi ≤ i) (h0 : i ≠ 0 ∨ 0 < lo) (hi0 : 0 ≤ i) : LQ (sA σ (1000 * (k + 1) + f) i z) k S h l d w lo hi u v := by
  rcases q with q | ⟨a, b, m, a', w1, w2, e1, e2, e3, e4, e5, e6⟩
  · exact Or.inl q
  · have := e1.le; have := e2.le
    exact Or.inr ⟨a, b, m, a', w1, w2, e1.st hk hf (by omega) (by omega), e2.st hk hf (by omega) (by omega), by rw [tr_in hk (Or.inl hf), udt_ne (by omega)]; exact e3, e4, e5, e6⟩
theorem LQ.push0 {σ : rS} {k S f : Nat} {h x d w w2 w' lo m hi u a v i : Int} (hk : rgk k) (hS : S < 100) (hf : f < 6) (q : LQ σ k S h 0 d w lo m u a) (e : TS σ k S x 0 d w2 m hi 0 0 a v) (h5 : tr σ k 5 x = 0) (hx : m ≤ x ∧ x < hi ∧ x ≠ 0) (h1 : i < lo ∨ hi ≤ i) (hi0 : 0 < i) (hw : w' = w + w2) : LQ (sA σ (1000 * (k + 1) + f) i x) k S x x d w' lo hi u v := by
  rcases q with ⟨_, b, c, e', g⟩ | q
  · subst hw g c
    have := e.le
    have e2 : TS σ k S x 0 d (0 + w2) lo hi 0 0 u v := by rw [Int.zero_add]; exact TT.mono e (by omega) (by omega) (by omega) (by omega) (by omega)
    exact LQ.one hS (e2.st hk hf (by omega) (by omega)) (by rw [tr_in hk (Or.inl hf), udt_ne (by omega)]; exact h5) (by omega)
  · exact absurd rfl q.1
theorem LQ.push1 {σ : rS} {k S : Nat} {h l x d w w2 w' lo m hi u a v : Int} (hk : rgk k) (hS : S < 100) (q : LQ σ k S h l d w lo m u a) (hl : l ≠ 0) (e : TS σ k S x 0 d w2 m hi 0 0 a v) (h5 : tr σ k 5 x = 0) (hx : m ≤ x ∧ x < hi ∧ x ≠ 0) (hlo : 0 < lo) (hw : w' = w + w2) : LQ (sA σ (1000 * (k + 1) + 5) l x) k S h x d w' lo hi u v := by
  rcases q with q | ⟨a0, b, m', a', w1, w3, e1, e2, e3, e4, e5, e6⟩
  · exact absurd q.1 hl
  · have l1 := e1.le; have l2 := e2.le; have l3 := e.le
    subst hw e6
    have e2' : TT (tr (sA σ (1000 * (k + 1) + 5) l x) k) (zz (sA σ (1000 * (k + 1) + 5) l x) k) (100 + S - 100) l 0 d w3 m' m 0 0 a' a := by rw [Nat.add_sub_cancel_left]; exact e2.st5 hk hS
    refine Or.inr ⟨hx.2.2, b, m, _, w1 + w3, w2, TT.snoc (l1 := m') (h1 := m) (p1 := 0) (q1 := 0) (e1.st hk (by decide) (by omega) (by omega)) (by omega) a0 e2' (by omega) (by omega) (by rw [tr_in hk (Or.inl (by decide)), udt_eq]), e.st hk (by decide) (by omega) (by omega), by rw [tr_in hk (Or.inl (by decide)), udt_ne (by omega)]; exact h5, hx.1, hx.2.1, rfl⟩
/-- what a check says -/
def ck3 (s : rS) (q : Nat) (i : Int) : Int × Int × Int := (rA s (1000 * (q + 1) + 34) i, rA s (1000 * (q + 1) + 33) i, rA s (1000 * (q + 1) + 35) i)
theorem ck3_sF {s : rS} {q f p : Nat} {i x : Int} : ck3 (sF s q f x) p i = ck3 s p i := rfl
theorem ck3_ne {s : rS} {p q : Nat} {i j x : Int} (h : p ≠ 1000 * (q + 1) + 34 ∧ p ≠ 1000 * (q + 1) + 33 ∧ p ≠ 1000 * (q + 1) + 35) : ck3 (sA s p j x) q i = ck3 s q i := by
  unfold ck3; rw [A_sA_ne (Ne.symm h.1), A_sA_ne (Ne.symm h.2.1), A_sA_ne (Ne.symm h.2.2)]
theorem ck3_out {s : rS} {p k : Nat} {i j x : Int} (h : p < 2000 ∨ (p % 1000 ≠ 33 ∧ p % 1000 ≠ 34 ∧ p % 1000 ≠ 35)) : ck3 (sA s p j x) (kq k) i = ck3 s (kq k) i := by
  have := @kq_1 k
  exact ck3_ne (by omega)
/-- what a call of the reader leaves: nodes, regions, checks, words and open ones that were there; but b and c of the node c0 -/
def RGf (σ s : rS) (k : Nat) (c : Int) : Prop := ∀ f i, f < 6 → i < rF σ (kq k) 7 → (i ≠ c ∨ c = 0 ∨ f = 0 ∨ f = 1 ∨ f = 4 ∨ f = 5) → tr s k f i = tr σ k f i
def RGp (σ s : rS) (k : Nat) : Prop := (∀ i, i < rF σ (kq k) 32 → tr s k 31 i = tr σ k 31 i) ∧ (∀ a n, a ≠ 0 → zz σ k a n → zz s k a n) ∧ rF σ (kq k) 7 ≤ rF s (kq k) 7 ∧ rF σ (kq k) 32 ≤ rF s (kq k) 32 ∧ rF σ (kq k) 38 ≤ rF s (kq k) 38 ∧ (∀ i, i < rF σ (kq k) 38 → ck3 s (kq k) i = ck3 σ (kq k) i)
def RGw (σ s : rS) : Prop := rF σ 0 38 ≤ rF s 0 38 ∧ rF σ 0 39 ≤ rF s 0 39 ∧ (∀ j, j < rF σ 0 38 → rA s 1034 j = rA σ 1034 j ∧ rA s 1035 j = rA σ 1035 j) ∧ (∀ j, j < rF σ 0 39 → rA s 1040 j = rA σ 1040 j)
def RG (σ s : rS) (k : Nat) (c : Int) : Prop := RGf σ s k c ∧ RGp σ s k ∧ RGw σ s
theorem RG.rf {σ : rS} {k : Nat} {c : Int} : RG σ σ k c := ⟨fun _ _ _ _ _ => rfl, ⟨fun _ _ => rfl, fun _ _ _ h => h, by omega, by omega, by omega, fun _ _ => rfl⟩, by omega, by omega, fun _ _ => ⟨rfl, rfl⟩, fun _ _ => rfl⟩
theorem RG.num {σ s : rS} {k : Nat} {c : Int} (hk : rgk k) (h : RG σ s k c) : rF σ k 7 ≤ rF s k 7 ∧ rF σ k 32 ≤ rF s k 32 ∧ rF σ 0 38 ≤ rF s 0 38 ∧ rF σ 0 39 ≤ rF s 0 39 := by
  have := kq_k hk; unfold RG RGp RGw at h; rw [this] at h; exact ⟨h.2.1.2.2.1, h.2.1.2.2.2.1, h.2.2.1, h.2.2.2.1⟩
theorem RG.trans {σ s t : rS} {k : Nat} {c c' : Int} (h : RG σ s k c) (h' : RG s t k c') (hc : c' = c ∨ c' = 0 ∨ rF σ (kq k) 7 ≤ c') : RG σ t k c := by
  obtain ⟨a, ⟨b1, b2, b3, b4, b5, b6⟩, w1, w2, w4, w5⟩ := h
  obtain ⟨a', ⟨b1', b2', b3', b4', b5', b6'⟩, w1', w2', w4', w5'⟩ := h'
  refine ⟨fun f i hf hi hc2 => ?_, ⟨fun i hi => (b1' i (by omega)).trans (b1 i hi), fun x n hx hz => b2' x n hx (b2 x n hx hz), by omega, by omega, by omega, fun i hi => (b6' i (by omega)).trans (b6 i hi)⟩, by omega, by omega, fun j hj => ⟨(w4' j (by omega)).1.trans (w4 j hj).1, (w4' j (by omega)).2.trans (w4 j hj).2⟩, fun j hj => (w5' j (by omega)).trans (w5 j hj)⟩
  exact (a' f i hf (by omega) (by omega)).trans (a f i hf hi hc2)
theorem RG.tr0 {σ s t : rS} {k : Nat} (h : RG σ s k 0) (h' : RG s t k 0) : RG σ t k 0 := h.trans h' (Or.inl rfl)
theorem RG.f {σ s : rS} {k f : Nat} {c i : Int} (hk : rgk k) (h : RG σ s k c) (hf : f < 6) (hi : i < rF σ k 7) (hc : i ≠ c ∨ c = 0 ∨ f = 0 ∨ f = 1 ∨ f = 4 ∨ f = 5) : tr s k f i = tr σ k f i := h.1 f i hf (by rw [kq_k hk]; exact hi) hc
theorem RG.ts {σ s : rS} {k S : Nat} {c x y d w lo hi p q u v : Int} (hk : rgk k) (h : RG σ s k c) (e : TS σ k S x y d w lo hi p q u v) (h1 : hi ≤ rF σ k 7) (h2 : q ≤ rF σ k 7) (h3 : v ≤ rF σ k 32) (h4 : c < lo ∨ hi ≤ c ∨ c = 0) (h5 : c < p ∨ q ≤ c ∨ c = 0) : TS s k S x y d w lo hi p q u v := by
  have e7 := kq_k hk
  refine TT.fr e (fun f i hf => ?_) (fun a n ha hz => h.2.1.2.1 a n ha hz)
  rcases hf with ⟨hf, hi⟩ | ⟨rfl, hi⟩
  · exact h.1 f i hf (by rw [e7]; omega) (by omega)
  · exact h.2.1.1 i (by rw [e7]; omega)
theorem RG.lq {σ s : rS} {k S : Nat} {c h l d w lo hi u v : Int} (hk : rgk k) (g : RG σ s k c) (e : LQ σ k S h l d w lo hi u v) (h1 : hi ≤ rF σ k 7) (h3 : v ≤ rF σ k 32) (h4 : c < lo ∨ hi ≤ c ∨ c = 0) (h0 : 0 < lo) (hc : 0 ≤ c) : LQ s k S h l d w lo hi u v := by
  rcases e with q | ⟨a, b, m, a', w1, w2, e1, e2, e3, e4, e5, e6⟩
  · exact Or.inl q
  · have := e1.le; have := e2.le
    exact Or.inr ⟨a, b, m, a', w1, w2, g.ts hk e1 (by omega) (by omega) (by omega) (by omega) (by omega), g.ts hk e2 (by omega) (by omega) (by omega) (by omega) (by omega), (g.f hk (by decide) (by omega) (by omega)).trans e3, e4, e5, e6⟩
theorem RG.keep {a b c d e k : Nat} {c0 : Int} {s t : rS} (h : rKeep a b c d e s t) (a1 : a.testBit 38 = false) (a2 : a.testBit 39 = false) (b1 : b.testBit 7 = false) (b2 : b.testBit 32 = false) (b3 : b.testBit 38 = false) (c1 : c.testBit 34 = false) (c2 : c.testBit 35 = false) (c3 : c.testBit 40 = false) (d0 : d.testBit 0 = false) (d1 : d.testBit 1 = false) (d2 : d.testBit 2 = false) (d3 : d.testBit 3 = false) (d4 : d.testBit 4 = false) (d5 : d.testBit 5 = false) (d6 : d.testBit 31 = false) (d7 : d.testBit 33 = false) (d8 : d.testBit 34 = false) (d9 : d.testBit 35 = false) : RG s t k c0 := by
  have hq : 0 < kq k := by unfold kq; omega
  have hA : ∀ f i, f < 1000 → d.testBit f = false → rA t (1000 * (kq k + 1) + f) i = rA s (1000 * (kq k + 1) + f) i := fun f i hf hd => h.2.2.2.1 _ _ _ hq hf hd
  have hF : ∀ f, b.testBit f = false → rF t (kq k) f = rF s (kq k) f := fun f hb => h.2.1 _ _ hq hb
  have ht : ∀ f i, (f < 6 ∨ f = 31) → tr t k f i = tr s k f i := by
    intro f i hf
    have hd : d.testBit f = false := by
      rcases hf with hf | rfl
      · have : f = 0 ∨ f = 1 ∨ f = 2 ∨ f = 3 ∨ f = 4 ∨ f = 5 := by omega
        rcases this with rfl | rfl | rfl | rfl | rfl | rfl <;> assumption
      · assumption
    unfold tr
    rw [if_pos hf, if_pos hf]
    by_cases hk : k = 0
    · subst hk; exact h.2.2.2.1 2 f i (by omega) (by omega) hd
    · have := h.2.2.2.1 k f i (by omega) (by omega) hd
      rw [show 1000 * (k + 1) + 2000 * (1 - k) + f = 1000 * (k + 1) + f by omega]; exact this
  refine ⟨fun f i hf _ _ => ht f i (Or.inl hf), ⟨fun i _ => ht 31 i (Or.inr rfl), fun x n _ hz => ?_, by rw [hF 7 b1]; omega, by rw [hF 32 b2]; omega, by rw [hF 38 b3]; omega, fun i _ => by unfold ck3; rw [hA 34 i (by decide) d8, hA 33 i (by decide) d7, hA 35 i (by decide) d9]⟩, by rw [h.F a1]; omega, by rw [h.F a2]; omega, fun j _ => ⟨h.A (by decide) c1, h.A (by decide) c2⟩, fun j _ => h.A (by decide) c3⟩
  obtain ⟨j, z1, z2, z3, z4, z5⟩ := hz
  exact ⟨j, z1, by rw [hF 38 b3]; exact z2, by rw [hA 33 j (by decide) d7]; exact z3, by rw [hA 34 j (by decide) d8]; exact z4, by rw [hA 35 j (by decide) d9]; exact z5⟩
theorem RG.st {σ s : rS} {k f : Nat} {c i x : Int} (hk : rgk k) (h : RG σ s k c) (hf : f < 6) (hi : rF σ k 7 ≤ i ∨ i = c ∧ c ≠ 0 ∧ (f = 2 ∨ f = 3)) : RG σ (sA s (1000 * (k + 1) + f) i x) k c := by
  have e7 := kq_k hk
  have hk1 : 1 ≤ k := by rcases hk with rfl | rfl | rfl <;> decide
  obtain ⟨a, ⟨b1, b2, b3, b4, b5, b6⟩, w1, w2, w4, w5⟩ := h
  have hN : rF σ (kq k) 7 = rF σ k 7 := by rw [e7]
  refine ⟨fun f' i' hf' hi' hc' => ?_, ⟨fun i' hi' => ?_, fun y n hy hz => ?_, b3, b4, b5, fun i hi => (ck3_ne (by rw [e7]; omega)).trans (b6 i hi)⟩, w1, w2, fun j hj => ?_, fun j hj => ?_⟩
  · rw [tr_in hk (Or.inl hf), udt_ne (by omega)]; exact a f' i' hf' hi' hc'
  · rw [tr_in hk (Or.inl hf), udt_ne (by omega)]; exact b1 i' hi'
  · rw [zz_out (Or.inr (by omega))]; exact b2 y n hy hz
  · rw [A_sA_ne (by omega), A_sA_ne (by omega)]; exact w4 j hj
  · rw [A_sA_ne (by omega)]; exact w5 j hj

theorem RG_l0 {σ s : rS} {k : Nat} {c x : Int} : RG (sF σ 0 0 x) s k c = RG σ s k c := by unfold RG RGf RGp RGw; simp only [F_sF_nq kq_0, tr_sF, zz_sF, F_sF_ne (show (38 : Nat) ≠ 0 by decide), F_sF_ne (show (39 : Nat) ≠ 0 by decide), rA_sF, ck3_sF]
theorem RG_r0 {σ s : rS} {k : Nat} {c x : Int} : RG σ (sF s 0 0 x) k c = RG σ s k c := by unfold RG RGf RGp RGw; simp only [F_sF_nq kq_0, tr_sF, zz_sF, F_sF_ne (show (38 : Nat) ≠ 0 by decide), F_sF_ne (show (39 : Nat) ≠ 0 by decide), rA_sF, ck3_sF]
theorem RG_l3 {σ s : rS} {k : Nat} {c x : Int} : RG (sF σ 0 3 x) s k c = RG σ s k c := by unfold RG RGf RGp RGw; simp only [F_sF_nq kq_0, tr_sF, zz_sF, F_sF_ne (show (38 : Nat) ≠ 3 by decide), F_sF_ne (show (39 : Nat) ≠ 3 by decide), rA_sF, ck3_sF]
theorem RG_r3 {σ s : rS} {k : Nat} {c x : Int} : RG σ (sF s 0 3 x) k c = RG σ s k c := by unfold RG RGf RGp RGw; simp only [F_sF_nq kq_0, tr_sF, zz_sF, F_sF_ne (show (38 : Nat) ≠ 3 by decide), F_sF_ne (show (39 : Nat) ≠ 3 by decide), rA_sF, ck3_sF]
theorem RG_l10 {σ s : rS} {k : Nat} {c x : Int} : RG (sF σ 0 10 x) s k c = RG σ s k c := by unfold RG RGf RGp RGw; simp only [F_sF_nq kq_0, tr_sF, zz_sF, F_sF_ne (show (38 : Nat) ≠ 10 by decide), F_sF_ne (show (39 : Nat) ≠ 10 by decide), rA_sF, ck3_sF]
theorem RG_r10 {σ s : rS} {k : Nat} {c x : Int} : RG σ (sF s 0 10 x) k c = RG σ s k c := by unfold RG RGf RGp RGw; simp only [F_sF_nq kq_0, tr_sF, zz_sF, F_sF_ne (show (38 : Nat) ≠ 10 by decide), F_sF_ne (show (39 : Nat) ≠ 10 by decide), rA_sF, ck3_sF]
theorem RG_l11 {σ s : rS} {k : Nat} {c x : Int} : RG (sF σ 0 11 x) s k c = RG σ s k c := by unfold RG RGf RGp RGw; simp only [F_sF_nq kq_0, tr_sF, zz_sF, F_sF_ne (show (38 : Nat) ≠ 11 by decide), F_sF_ne (show (39 : Nat) ≠ 11 by decide), rA_sF, ck3_sF]
theorem RG_r11 {σ s : rS} {k : Nat} {c x : Int} : RG σ (sF s 0 11 x) k c = RG σ s k c := by unfold RG RGf RGp RGw; simp only [F_sF_nq kq_0, tr_sF, zz_sF, F_sF_ne (show (38 : Nat) ≠ 11 by decide), F_sF_ne (show (39 : Nat) ≠ 11 by decide), rA_sF, ck3_sF]
theorem RG_l12 {σ s : rS} {k : Nat} {c x : Int} : RG (sF σ 0 12 x) s k c = RG σ s k c := by unfold RG RGf RGp RGw; simp only [F_sF_nq kq_0, tr_sF, zz_sF, F_sF_ne (show (38 : Nat) ≠ 12 by decide), F_sF_ne (show (39 : Nat) ≠ 12 by decide), rA_sF, ck3_sF]
theorem RG_r12 {σ s : rS} {k : Nat} {c x : Int} : RG σ (sF s 0 12 x) k c = RG σ s k c := by unfold RG RGf RGp RGw; simp only [F_sF_nq kq_0, tr_sF, zz_sF, F_sF_ne (show (38 : Nat) ≠ 12 by decide), F_sF_ne (show (39 : Nat) ≠ 12 by decide), rA_sF, ck3_sF]
theorem RG_l13 {σ s : rS} {k : Nat} {c x : Int} : RG (sF σ 0 13 x) s k c = RG σ s k c := by unfold RG RGf RGp RGw; simp only [F_sF_nq kq_0, tr_sF, zz_sF, F_sF_ne (show (38 : Nat) ≠ 13 by decide), F_sF_ne (show (39 : Nat) ≠ 13 by decide), rA_sF, ck3_sF]
theorem RG_r13 {σ s : rS} {k : Nat} {c x : Int} : RG σ (sF s 0 13 x) k c = RG σ s k c := by unfold RG RGf RGp RGw; simp only [F_sF_nq kq_0, tr_sF, zz_sF, F_sF_ne (show (38 : Nat) ≠ 13 by decide), F_sF_ne (show (39 : Nat) ≠ 13 by decide), rA_sF, ck3_sF]
theorem RG_l14 {σ s : rS} {k : Nat} {c x : Int} : RG (sF σ 0 14 x) s k c = RG σ s k c := by unfold RG RGf RGp RGw; simp only [F_sF_nq kq_0, tr_sF, zz_sF, F_sF_ne (show (38 : Nat) ≠ 14 by decide), F_sF_ne (show (39 : Nat) ≠ 14 by decide), rA_sF, ck3_sF]
theorem RG_r14 {σ s : rS} {k : Nat} {c x : Int} : RG σ (sF s 0 14 x) k c = RG σ s k c := by unfold RG RGf RGp RGw; simp only [F_sF_nq kq_0, tr_sF, zz_sF, F_sF_ne (show (38 : Nat) ≠ 14 by decide), F_sF_ne (show (39 : Nat) ≠ 14 by decide), rA_sF, ck3_sF]
theorem RG_l16 {σ s : rS} {k : Nat} {c x : Int} : RG (sF σ 0 16 x) s k c = RG σ s k c := by unfold RG RGf RGp RGw; simp only [F_sF_nq kq_0, tr_sF, zz_sF, F_sF_ne (show (38 : Nat) ≠ 16 by decide), F_sF_ne (show (39 : Nat) ≠ 16 by decide), rA_sF, ck3_sF]
theorem RG_r16 {σ s : rS} {k : Nat} {c x : Int} : RG σ (sF s 0 16 x) k c = RG σ s k c := by unfold RG RGf RGp RGw; simp only [F_sF_nq kq_0, tr_sF, zz_sF, F_sF_ne (show (38 : Nat) ≠ 16 by decide), F_sF_ne (show (39 : Nat) ≠ 16 by decide), rA_sF, ck3_sF]
theorem RG_l17 {σ s : rS} {k : Nat} {c x : Int} : RG (sF σ 0 17 x) s k c = RG σ s k c := by unfold RG RGf RGp RGw; simp only [F_sF_nq kq_0, tr_sF, zz_sF, F_sF_ne (show (38 : Nat) ≠ 17 by decide), F_sF_ne (show (39 : Nat) ≠ 17 by decide), rA_sF, ck3_sF]
theorem RG_r17 {σ s : rS} {k : Nat} {c x : Int} : RG σ (sF s 0 17 x) k c = RG σ s k c := by unfold RG RGf RGp RGw; simp only [F_sF_nq kq_0, tr_sF, zz_sF, F_sF_ne (show (38 : Nat) ≠ 17 by decide), F_sF_ne (show (39 : Nat) ≠ 17 by decide), rA_sF, ck3_sF]
theorem RG_l18 {σ s : rS} {k : Nat} {c x : Int} : RG (sF σ 0 18 x) s k c = RG σ s k c := by unfold RG RGf RGp RGw; simp only [F_sF_nq kq_0, tr_sF, zz_sF, F_sF_ne (show (38 : Nat) ≠ 18 by decide), F_sF_ne (show (39 : Nat) ≠ 18 by decide), rA_sF, ck3_sF]
theorem RG_r18 {σ s : rS} {k : Nat} {c x : Int} : RG σ (sF s 0 18 x) k c = RG σ s k c := by unfold RG RGf RGp RGw; simp only [F_sF_nq kq_0, tr_sF, zz_sF, F_sF_ne (show (38 : Nat) ≠ 18 by decide), F_sF_ne (show (39 : Nat) ≠ 18 by decide), rA_sF, ck3_sF]
theorem RG_l19 {σ s : rS} {k : Nat} {c x : Int} : RG (sF σ 0 19 x) s k c = RG σ s k c := by unfold RG RGf RGp RGw; simp only [F_sF_nq kq_0, tr_sF, zz_sF, F_sF_ne (show (38 : Nat) ≠ 19 by decide), F_sF_ne (show (39 : Nat) ≠ 19 by decide), rA_sF, ck3_sF]
theorem RG_r19 {σ s : rS} {k : Nat} {c x : Int} : RG σ (sF s 0 19 x) k c = RG σ s k c := by unfold RG RGf RGp RGw; simp only [F_sF_nq kq_0, tr_sF, zz_sF, F_sF_ne (show (38 : Nat) ≠ 19 by decide), F_sF_ne (show (39 : Nat) ≠ 19 by decide), rA_sF, ck3_sF]
theorem RG_l21 {σ s : rS} {k : Nat} {c x : Int} : RG (sF σ 0 21 x) s k c = RG σ s k c := by unfold RG RGf RGp RGw; simp only [F_sF_nq kq_0, tr_sF, zz_sF, F_sF_ne (show (38 : Nat) ≠ 21 by decide), F_sF_ne (show (39 : Nat) ≠ 21 by decide), rA_sF, ck3_sF]
theorem RG_r21 {σ s : rS} {k : Nat} {c x : Int} : RG σ (sF s 0 21 x) k c = RG σ s k c := by unfold RG RGf RGp RGw; simp only [F_sF_nq kq_0, tr_sF, zz_sF, F_sF_ne (show (38 : Nat) ≠ 21 by decide), F_sF_ne (show (39 : Nat) ≠ 21 by decide), rA_sF, ck3_sF]
theorem RG_l22 {σ s : rS} {k : Nat} {c x : Int} : RG (sF σ 0 22 x) s k c = RG σ s k c := by unfold RG RGf RGp RGw; simp only [F_sF_nq kq_0, tr_sF, zz_sF, F_sF_ne (show (38 : Nat) ≠ 22 by decide), F_sF_ne (show (39 : Nat) ≠ 22 by decide), rA_sF, ck3_sF]
theorem RG_r22 {σ s : rS} {k : Nat} {c x : Int} : RG σ (sF s 0 22 x) k c = RG σ s k c := by unfold RG RGf RGp RGw; simp only [F_sF_nq kq_0, tr_sF, zz_sF, F_sF_ne (show (38 : Nat) ≠ 22 by decide), F_sF_ne (show (39 : Nat) ≠ 22 by decide), rA_sF, ck3_sF]
theorem RG_l23 {σ s : rS} {k : Nat} {c x : Int} : RG (sF σ 0 23 x) s k c = RG σ s k c := by unfold RG RGf RGp RGw; simp only [F_sF_nq kq_0, tr_sF, zz_sF, F_sF_ne (show (38 : Nat) ≠ 23 by decide), F_sF_ne (show (39 : Nat) ≠ 23 by decide), rA_sF, ck3_sF]
theorem RG_r23 {σ s : rS} {k : Nat} {c x : Int} : RG σ (sF s 0 23 x) k c = RG σ s k c := by unfold RG RGf RGp RGw; simp only [F_sF_nq kq_0, tr_sF, zz_sF, F_sF_ne (show (38 : Nat) ≠ 23 by decide), F_sF_ne (show (39 : Nat) ≠ 23 by decide), rA_sF, ck3_sF]
theorem RG_l24 {σ s : rS} {k : Nat} {c x : Int} : RG (sF σ 0 24 x) s k c = RG σ s k c := by unfold RG RGf RGp RGw; simp only [F_sF_nq kq_0, tr_sF, zz_sF, F_sF_ne (show (38 : Nat) ≠ 24 by decide), F_sF_ne (show (39 : Nat) ≠ 24 by decide), rA_sF, ck3_sF]
theorem RG_r24 {σ s : rS} {k : Nat} {c x : Int} : RG σ (sF s 0 24 x) k c = RG σ s k c := by unfold RG RGf RGp RGw; simp only [F_sF_nq kq_0, tr_sF, zz_sF, F_sF_ne (show (38 : Nat) ≠ 24 by decide), F_sF_ne (show (39 : Nat) ≠ 24 by decide), rA_sF, ck3_sF]
theorem RG_l25 {σ s : rS} {k : Nat} {c x : Int} : RG (sF σ 0 25 x) s k c = RG σ s k c := by unfold RG RGf RGp RGw; simp only [F_sF_nq kq_0, tr_sF, zz_sF, F_sF_ne (show (38 : Nat) ≠ 25 by decide), F_sF_ne (show (39 : Nat) ≠ 25 by decide), rA_sF, ck3_sF]
theorem RG_r25 {σ s : rS} {k : Nat} {c x : Int} : RG σ (sF s 0 25 x) k c = RG σ s k c := by unfold RG RGf RGp RGw; simp only [F_sF_nq kq_0, tr_sF, zz_sF, F_sF_ne (show (38 : Nat) ≠ 25 by decide), F_sF_ne (show (39 : Nat) ≠ 25 by decide), rA_sF, ck3_sF]
theorem RG_l28 {σ s : rS} {k : Nat} {c x : Int} : RG (sF σ 0 28 x) s k c = RG σ s k c := by unfold RG RGf RGp RGw; simp only [F_sF_nq kq_0, tr_sF, zz_sF, F_sF_ne (show (38 : Nat) ≠ 28 by decide), F_sF_ne (show (39 : Nat) ≠ 28 by decide), rA_sF, ck3_sF]
theorem RG_r28 {σ s : rS} {k : Nat} {c x : Int} : RG σ (sF s 0 28 x) k c = RG σ s k c := by unfold RG RGf RGp RGw; simp only [F_sF_nq kq_0, tr_sF, zz_sF, F_sF_ne (show (38 : Nat) ≠ 28 by decide), F_sF_ne (show (39 : Nat) ≠ 28 by decide), rA_sF, ck3_sF]
theorem RG_l29 {σ s : rS} {k : Nat} {c x : Int} : RG (sF σ 0 29 x) s k c = RG σ s k c := by unfold RG RGf RGp RGw; simp only [F_sF_nq kq_0, tr_sF, zz_sF, F_sF_ne (show (38 : Nat) ≠ 29 by decide), F_sF_ne (show (39 : Nat) ≠ 29 by decide), rA_sF, ck3_sF]
theorem RG_r29 {σ s : rS} {k : Nat} {c x : Int} : RG σ (sF s 0 29 x) k c = RG σ s k c := by unfold RG RGf RGp RGw; simp only [F_sF_nq kq_0, tr_sF, zz_sF, F_sF_ne (show (38 : Nat) ≠ 29 by decide), F_sF_ne (show (39 : Nat) ≠ 29 by decide), rA_sF, ck3_sF]
theorem RG_l30 {σ s : rS} {k : Nat} {c x : Int} : RG (sF σ 0 30 x) s k c = RG σ s k c := by unfold RG RGf RGp RGw; simp only [F_sF_nq kq_0, tr_sF, zz_sF, F_sF_ne (show (38 : Nat) ≠ 30 by decide), F_sF_ne (show (39 : Nat) ≠ 30 by decide), rA_sF, ck3_sF]
theorem RG_r30 {σ s : rS} {k : Nat} {c x : Int} : RG σ (sF s 0 30 x) k c = RG σ s k c := by unfold RG RGf RGp RGw; simp only [F_sF_nq kq_0, tr_sF, zz_sF, F_sF_ne (show (38 : Nat) ≠ 30 by decide), F_sF_ne (show (39 : Nat) ≠ 30 by decide), rA_sF, ck3_sF]
theorem RG_l31 {σ s : rS} {k : Nat} {c x : Int} : RG (sF σ 0 31 x) s k c = RG σ s k c := by unfold RG RGf RGp RGw; simp only [F_sF_nq kq_0, tr_sF, zz_sF, F_sF_ne (show (38 : Nat) ≠ 31 by decide), F_sF_ne (show (39 : Nat) ≠ 31 by decide), rA_sF, ck3_sF]
theorem RG_r31 {σ s : rS} {k : Nat} {c x : Int} : RG σ (sF s 0 31 x) k c = RG σ s k c := by unfold RG RGf RGp RGw; simp only [F_sF_nq kq_0, tr_sF, zz_sF, F_sF_ne (show (38 : Nat) ≠ 31 by decide), F_sF_ne (show (39 : Nat) ≠ 31 by decide), rA_sF, ck3_sF]
theorem RG_l32 {σ s : rS} {k : Nat} {c x : Int} : RG (sF σ 0 32 x) s k c = RG σ s k c := by unfold RG RGf RGp RGw; simp only [F_sF_nq kq_0, tr_sF, zz_sF, F_sF_ne (show (38 : Nat) ≠ 32 by decide), F_sF_ne (show (39 : Nat) ≠ 32 by decide), rA_sF, ck3_sF]
theorem RG_r32 {σ s : rS} {k : Nat} {c x : Int} : RG σ (sF s 0 32 x) k c = RG σ s k c := by unfold RG RGf RGp RGw; simp only [F_sF_nq kq_0, tr_sF, zz_sF, F_sF_ne (show (38 : Nat) ≠ 32 by decide), F_sF_ne (show (39 : Nat) ≠ 32 by decide), rA_sF, ck3_sF]
theorem RG_l33 {σ s : rS} {k : Nat} {c x : Int} : RG (sF σ 0 33 x) s k c = RG σ s k c := by unfold RG RGf RGp RGw; simp only [F_sF_nq kq_0, tr_sF, zz_sF, F_sF_ne (show (38 : Nat) ≠ 33 by decide), F_sF_ne (show (39 : Nat) ≠ 33 by decide), rA_sF, ck3_sF]
theorem RG_r33 {σ s : rS} {k : Nat} {c x : Int} : RG σ (sF s 0 33 x) k c = RG σ s k c := by unfold RG RGf RGp RGw; simp only [F_sF_nq kq_0, tr_sF, zz_sF, F_sF_ne (show (38 : Nat) ≠ 33 by decide), F_sF_ne (show (39 : Nat) ≠ 33 by decide), rA_sF, ck3_sF]
theorem RG_l41 {σ s : rS} {k : Nat} {c x : Int} : RG (sF σ 0 41 x) s k c = RG σ s k c := by unfold RG RGf RGp RGw; simp only [F_sF_nq kq_0, tr_sF, zz_sF, F_sF_ne (show (38 : Nat) ≠ 41 by decide), F_sF_ne (show (39 : Nat) ≠ 41 by decide), rA_sF, ck3_sF]
theorem RG_r41 {σ s : rS} {k : Nat} {c x : Int} : RG σ (sF s 0 41 x) k c = RG σ s k c := by unfold RG RGf RGp RGw; simp only [F_sF_nq kq_0, tr_sF, zz_sF, F_sF_ne (show (38 : Nat) ≠ 41 by decide), F_sF_ne (show (39 : Nat) ≠ 41 by decide), rA_sF, ck3_sF]
theorem RG_l42 {σ s : rS} {k : Nat} {c x : Int} : RG (sF σ 0 42 x) s k c = RG σ s k c := by unfold RG RGf RGp RGw; simp only [F_sF_nq kq_0, tr_sF, zz_sF, F_sF_ne (show (38 : Nat) ≠ 42 by decide), F_sF_ne (show (39 : Nat) ≠ 42 by decide), rA_sF, ck3_sF]
theorem RG_r42 {σ s : rS} {k : Nat} {c x : Int} : RG σ (sF s 0 42 x) k c = RG σ s k c := by unfold RG RGf RGp RGw; simp only [F_sF_nq kq_0, tr_sF, zz_sF, F_sF_ne (show (38 : Nat) ≠ 42 by decide), F_sF_ne (show (39 : Nat) ≠ 42 by decide), rA_sF, ck3_sF]
theorem RG_l43 {σ s : rS} {k : Nat} {c x : Int} : RG (sF σ 0 43 x) s k c = RG σ s k c := by unfold RG RGf RGp RGw; simp only [F_sF_nq kq_0, tr_sF, zz_sF, F_sF_ne (show (38 : Nat) ≠ 43 by decide), F_sF_ne (show (39 : Nat) ≠ 43 by decide), rA_sF, ck3_sF]
theorem RG_r43 {σ s : rS} {k : Nat} {c x : Int} : RG σ (sF s 0 43 x) k c = RG σ s k c := by unfold RG RGf RGp RGw; simp only [F_sF_nq kq_0, tr_sF, zz_sF, F_sF_ne (show (38 : Nat) ≠ 43 by decide), F_sF_ne (show (39 : Nat) ≠ 43 by decide), rA_sF, ck3_sF]
theorem RG_l44 {σ s : rS} {k : Nat} {c x : Int} : RG (sF σ 0 44 x) s k c = RG σ s k c := by unfold RG RGf RGp RGw; simp only [F_sF_nq kq_0, tr_sF, zz_sF, F_sF_ne (show (38 : Nat) ≠ 44 by decide), F_sF_ne (show (39 : Nat) ≠ 44 by decide), rA_sF, ck3_sF]
theorem RG_r44 {σ s : rS} {k : Nat} {c x : Int} : RG σ (sF s 0 44 x) k c = RG σ s k c := by unfold RG RGf RGp RGw; simp only [F_sF_nq kq_0, tr_sF, zz_sF, F_sF_ne (show (38 : Nat) ≠ 44 by decide), F_sF_ne (show (39 : Nat) ≠ 44 by decide), rA_sF, ck3_sF]
theorem RG_l45 {σ s : rS} {k : Nat} {c x : Int} : RG (sF σ 0 45 x) s k c = RG σ s k c := by unfold RG RGf RGp RGw; simp only [F_sF_nq kq_0, tr_sF, zz_sF, F_sF_ne (show (38 : Nat) ≠ 45 by decide), F_sF_ne (show (39 : Nat) ≠ 45 by decide), rA_sF, ck3_sF]
theorem RG_r45 {σ s : rS} {k : Nat} {c x : Int} : RG σ (sF s 0 45 x) k c = RG σ s k c := by unfold RG RGf RGp RGw; simp only [F_sF_nq kq_0, tr_sF, zz_sF, F_sF_ne (show (38 : Nat) ≠ 45 by decide), F_sF_ne (show (39 : Nat) ≠ 45 by decide), rA_sF, ck3_sF]
theorem RG_l60 {σ s : rS} {k : Nat} {c x : Int} : RG (sF σ 0 60 x) s k c = RG σ s k c := by unfold RG RGf RGp RGw; simp only [F_sF_nq kq_0, tr_sF, zz_sF, F_sF_ne (show (38 : Nat) ≠ 60 by decide), F_sF_ne (show (39 : Nat) ≠ 60 by decide), rA_sF, ck3_sF]
theorem RG_r60 {σ s : rS} {k : Nat} {c x : Int} : RG σ (sF s 0 60 x) k c = RG σ s k c := by unfold RG RGf RGp RGw; simp only [F_sF_nq kq_0, tr_sF, zz_sF, F_sF_ne (show (38 : Nat) ≠ 60 by decide), F_sF_ne (show (39 : Nat) ≠ 60 by decide), rA_sF, ck3_sF]
theorem RG_l65 {σ s : rS} {k : Nat} {c x : Int} : RG (sF σ 0 65 x) s k c = RG σ s k c := by unfold RG RGf RGp RGw; simp only [F_sF_nq kq_0, tr_sF, zz_sF, F_sF_ne (show (38 : Nat) ≠ 65 by decide), F_sF_ne (show (39 : Nat) ≠ 65 by decide), rA_sF, ck3_sF]
theorem RG_r65 {σ s : rS} {k : Nat} {c x : Int} : RG σ (sF s 0 65 x) k c = RG σ s k c := by unfold RG RGf RGp RGw; simp only [F_sF_nq kq_0, tr_sF, zz_sF, F_sF_ne (show (38 : Nat) ≠ 65 by decide), F_sF_ne (show (39 : Nat) ≠ 65 by decide), rA_sF, ck3_sF]
theorem RG_l66 {σ s : rS} {k : Nat} {c x : Int} : RG (sF σ 0 66 x) s k c = RG σ s k c := by unfold RG RGf RGp RGw; simp only [F_sF_nq kq_0, tr_sF, zz_sF, F_sF_ne (show (38 : Nat) ≠ 66 by decide), F_sF_ne (show (39 : Nat) ≠ 66 by decide), rA_sF, ck3_sF]
theorem RG_r66 {σ s : rS} {k : Nat} {c x : Int} : RG σ (sF s 0 66 x) k c = RG σ s k c := by unfold RG RGf RGp RGw; simp only [F_sF_nq kq_0, tr_sF, zz_sF, F_sF_ne (show (38 : Nat) ≠ 66 by decide), F_sF_ne (show (39 : Nat) ≠ 66 by decide), rA_sF, ck3_sF]
theorem RG_l67 {σ s : rS} {k : Nat} {c x : Int} : RG (sF σ 0 67 x) s k c = RG σ s k c := by unfold RG RGf RGp RGw; simp only [F_sF_nq kq_0, tr_sF, zz_sF, F_sF_ne (show (38 : Nat) ≠ 67 by decide), F_sF_ne (show (39 : Nat) ≠ 67 by decide), rA_sF, ck3_sF]
theorem RG_r67 {σ s : rS} {k : Nat} {c x : Int} : RG σ (sF s 0 67 x) k c = RG σ s k c := by unfold RG RGf RGp RGw; simp only [F_sF_nq kq_0, tr_sF, zz_sF, F_sF_ne (show (38 : Nat) ≠ 67 by decide), F_sF_ne (show (39 : Nat) ≠ 67 by decide), rA_sF, ck3_sF]
theorem RG_l68 {σ s : rS} {k : Nat} {c x : Int} : RG (sF σ 0 68 x) s k c = RG σ s k c := by unfold RG RGf RGp RGw; simp only [F_sF_nq kq_0, tr_sF, zz_sF, F_sF_ne (show (38 : Nat) ≠ 68 by decide), F_sF_ne (show (39 : Nat) ≠ 68 by decide), rA_sF, ck3_sF]
theorem RG_r68 {σ s : rS} {k : Nat} {c x : Int} : RG σ (sF s 0 68 x) k c = RG σ s k c := by unfold RG RGf RGp RGw; simp only [F_sF_nq kq_0, tr_sF, zz_sF, F_sF_ne (show (38 : Nat) ≠ 68 by decide), F_sF_ne (show (39 : Nat) ≠ 68 by decide), rA_sF, ck3_sF]
theorem RG_l70 {σ s : rS} {k : Nat} {c x : Int} : RG (sF σ 0 70 x) s k c = RG σ s k c := by unfold RG RGf RGp RGw; simp only [F_sF_nq kq_0, tr_sF, zz_sF, F_sF_ne (show (38 : Nat) ≠ 70 by decide), F_sF_ne (show (39 : Nat) ≠ 70 by decide), rA_sF, ck3_sF]
theorem RG_r70 {σ s : rS} {k : Nat} {c x : Int} : RG σ (sF s 0 70 x) k c = RG σ s k c := by unfold RG RGf RGp RGw; simp only [F_sF_nq kq_0, tr_sF, zz_sF, F_sF_ne (show (38 : Nat) ≠ 70 by decide), F_sF_ne (show (39 : Nat) ≠ 70 by decide), rA_sF, ck3_sF]
theorem RG_l71 {σ s : rS} {k : Nat} {c x : Int} : RG (sF σ 0 71 x) s k c = RG σ s k c := by unfold RG RGf RGp RGw; simp only [F_sF_nq kq_0, tr_sF, zz_sF, F_sF_ne (show (38 : Nat) ≠ 71 by decide), F_sF_ne (show (39 : Nat) ≠ 71 by decide), rA_sF, ck3_sF]
theorem RG_r71 {σ s : rS} {k : Nat} {c x : Int} : RG σ (sF s 0 71 x) k c = RG σ s k c := by unfold RG RGf RGp RGw; simp only [F_sF_nq kq_0, tr_sF, zz_sF, F_sF_ne (show (38 : Nat) ≠ 71 by decide), F_sF_ne (show (39 : Nat) ≠ 71 by decide), rA_sF, ck3_sF]
theorem RG_l72 {σ s : rS} {k : Nat} {c x : Int} : RG (sF σ 0 72 x) s k c = RG σ s k c := by unfold RG RGf RGp RGw; simp only [F_sF_nq kq_0, tr_sF, zz_sF, F_sF_ne (show (38 : Nat) ≠ 72 by decide), F_sF_ne (show (39 : Nat) ≠ 72 by decide), rA_sF, ck3_sF]
theorem RG_r72 {σ s : rS} {k : Nat} {c x : Int} : RG σ (sF s 0 72 x) k c = RG σ s k c := by unfold RG RGf RGp RGw; simp only [F_sF_nq kq_0, tr_sF, zz_sF, F_sF_ne (show (38 : Nat) ≠ 72 by decide), F_sF_ne (show (39 : Nat) ≠ 72 by decide), rA_sF, ck3_sF]
theorem RG_l73 {σ s : rS} {k : Nat} {c x : Int} : RG (sF σ 0 73 x) s k c = RG σ s k c := by unfold RG RGf RGp RGw; simp only [F_sF_nq kq_0, tr_sF, zz_sF, F_sF_ne (show (38 : Nat) ≠ 73 by decide), F_sF_ne (show (39 : Nat) ≠ 73 by decide), rA_sF, ck3_sF]
theorem RG_r73 {σ s : rS} {k : Nat} {c x : Int} : RG σ (sF s 0 73 x) k c = RG σ s k c := by unfold RG RGf RGp RGw; simp only [F_sF_nq kq_0, tr_sF, zz_sF, F_sF_ne (show (38 : Nat) ≠ 73 by decide), F_sF_ne (show (39 : Nat) ≠ 73 by decide), rA_sF, ck3_sF]
theorem RG_l74 {σ s : rS} {k : Nat} {c x : Int} : RG (sF σ 0 74 x) s k c = RG σ s k c := by unfold RG RGf RGp RGw; simp only [F_sF_nq kq_0, tr_sF, zz_sF, F_sF_ne (show (38 : Nat) ≠ 74 by decide), F_sF_ne (show (39 : Nat) ≠ 74 by decide), rA_sF, ck3_sF]
theorem RG_r74 {σ s : rS} {k : Nat} {c x : Int} : RG σ (sF s 0 74 x) k c = RG σ s k c := by unfold RG RGf RGp RGw; simp only [F_sF_nq kq_0, tr_sF, zz_sF, F_sF_ne (show (38 : Nat) ≠ 74 by decide), F_sF_ne (show (39 : Nat) ≠ 74 by decide), rA_sF, ck3_sF]
theorem RG_l80 {σ s : rS} {k : Nat} {c x : Int} : RG (sF σ 0 80 x) s k c = RG σ s k c := by unfold RG RGf RGp RGw; simp only [F_sF_nq kq_0, tr_sF, zz_sF, F_sF_ne (show (38 : Nat) ≠ 80 by decide), F_sF_ne (show (39 : Nat) ≠ 80 by decide), rA_sF, ck3_sF]
theorem RG_r80 {σ s : rS} {k : Nat} {c x : Int} : RG σ (sF s 0 80 x) k c = RG σ s k c := by unfold RG RGf RGp RGw; simp only [F_sF_nq kq_0, tr_sF, zz_sF, F_sF_ne (show (38 : Nat) ≠ 80 by decide), F_sF_ne (show (39 : Nat) ≠ 80 by decide), rA_sF, ck3_sF]
theorem RG_l81 {σ s : rS} {k : Nat} {c x : Int} : RG (sF σ 0 81 x) s k c = RG σ s k c := by unfold RG RGf RGp RGw; simp only [F_sF_nq kq_0, tr_sF, zz_sF, F_sF_ne (show (38 : Nat) ≠ 81 by decide), F_sF_ne (show (39 : Nat) ≠ 81 by decide), rA_sF, ck3_sF]
theorem RG_r81 {σ s : rS} {k : Nat} {c x : Int} : RG σ (sF s 0 81 x) k c = RG σ s k c := by unfold RG RGf RGp RGw; simp only [F_sF_nq kq_0, tr_sF, zz_sF, F_sF_ne (show (38 : Nat) ≠ 81 by decide), F_sF_ne (show (39 : Nat) ≠ 81 by decide), rA_sF, ck3_sF]
theorem RG_l82 {σ s : rS} {k : Nat} {c x : Int} : RG (sF σ 0 82 x) s k c = RG σ s k c := by unfold RG RGf RGp RGw; simp only [F_sF_nq kq_0, tr_sF, zz_sF, F_sF_ne (show (38 : Nat) ≠ 82 by decide), F_sF_ne (show (39 : Nat) ≠ 82 by decide), rA_sF, ck3_sF]
theorem RG_r82 {σ s : rS} {k : Nat} {c x : Int} : RG σ (sF s 0 82 x) k c = RG σ s k c := by unfold RG RGf RGp RGw; simp only [F_sF_nq kq_0, tr_sF, zz_sF, F_sF_ne (show (38 : Nat) ≠ 82 by decide), F_sF_ne (show (39 : Nat) ≠ 82 by decide), rA_sF, ck3_sF]
theorem RG_l83 {σ s : rS} {k : Nat} {c x : Int} : RG (sF σ 0 83 x) s k c = RG σ s k c := by unfold RG RGf RGp RGw; simp only [F_sF_nq kq_0, tr_sF, zz_sF, F_sF_ne (show (38 : Nat) ≠ 83 by decide), F_sF_ne (show (39 : Nat) ≠ 83 by decide), rA_sF, ck3_sF]
theorem RG_r83 {σ s : rS} {k : Nat} {c x : Int} : RG σ (sF s 0 83 x) k c = RG σ s k c := by unfold RG RGf RGp RGw; simp only [F_sF_nq kq_0, tr_sF, zz_sF, F_sF_ne (show (38 : Nat) ≠ 83 by decide), F_sF_ne (show (39 : Nat) ≠ 83 by decide), rA_sF, ck3_sF]
theorem RG_l88 {σ s : rS} {k : Nat} {c x : Int} : RG (sF σ 0 88 x) s k c = RG σ s k c := by unfold RG RGf RGp RGw; simp only [F_sF_nq kq_0, tr_sF, zz_sF, F_sF_ne (show (38 : Nat) ≠ 88 by decide), F_sF_ne (show (39 : Nat) ≠ 88 by decide), rA_sF, ck3_sF]
theorem RG_r88 {σ s : rS} {k : Nat} {c x : Int} : RG σ (sF s 0 88 x) k c = RG σ s k c := by unfold RG RGf RGp RGw; simp only [F_sF_nq kq_0, tr_sF, zz_sF, F_sF_ne (show (38 : Nat) ≠ 88 by decide), F_sF_ne (show (39 : Nat) ≠ 88 by decide), rA_sF, ck3_sF]
theorem RG_l92 {σ s : rS} {k : Nat} {c x : Int} : RG (sF σ 0 92 x) s k c = RG σ s k c := by unfold RG RGf RGp RGw; simp only [F_sF_nq kq_0, tr_sF, zz_sF, F_sF_ne (show (38 : Nat) ≠ 92 by decide), F_sF_ne (show (39 : Nat) ≠ 92 by decide), rA_sF, ck3_sF]
theorem RG_r92 {σ s : rS} {k : Nat} {c x : Int} : RG σ (sF s 0 92 x) k c = RG σ s k c := by unfold RG RGf RGp RGw; simp only [F_sF_nq kq_0, tr_sF, zz_sF, F_sF_ne (show (38 : Nat) ≠ 92 by decide), F_sF_ne (show (39 : Nat) ≠ 92 by decide), rA_sF, ck3_sF]
theorem RG_l94 {σ s : rS} {k : Nat} {c x : Int} : RG (sF σ 0 94 x) s k c = RG σ s k c := by unfold RG RGf RGp RGw; simp only [F_sF_nq kq_0, tr_sF, zz_sF, F_sF_ne (show (38 : Nat) ≠ 94 by decide), F_sF_ne (show (39 : Nat) ≠ 94 by decide), rA_sF, ck3_sF]
theorem RG_r94 {σ s : rS} {k : Nat} {c x : Int} : RG σ (sF s 0 94 x) k c = RG σ s k c := by unfold RG RGf RGp RGw; simp only [F_sF_nq kq_0, tr_sF, zz_sF, F_sF_ne (show (38 : Nat) ≠ 94 by decide), F_sF_ne (show (39 : Nat) ≠ 94 by decide), rA_sF, ck3_sF]
theorem RG_l96 {σ s : rS} {k : Nat} {c x : Int} : RG (sF σ 0 96 x) s k c = RG σ s k c := by unfold RG RGf RGp RGw; simp only [F_sF_nq kq_0, tr_sF, zz_sF, F_sF_ne (show (38 : Nat) ≠ 96 by decide), F_sF_ne (show (39 : Nat) ≠ 96 by decide), rA_sF, ck3_sF]
theorem RG_r96 {σ s : rS} {k : Nat} {c x : Int} : RG σ (sF s 0 96 x) k c = RG σ s k c := by unfold RG RGf RGp RGw; simp only [F_sF_nq kq_0, tr_sF, zz_sF, F_sF_ne (show (38 : Nat) ≠ 96 by decide), F_sF_ne (show (39 : Nat) ≠ 96 by decide), rA_sF, ck3_sF]
theorem RG_l97 {σ s : rS} {k : Nat} {c x : Int} : RG (sF σ 0 97 x) s k c = RG σ s k c := by unfold RG RGf RGp RGw; simp only [F_sF_nq kq_0, tr_sF, zz_sF, F_sF_ne (show (38 : Nat) ≠ 97 by decide), F_sF_ne (show (39 : Nat) ≠ 97 by decide), rA_sF, ck3_sF]
theorem RG_r97 {σ s : rS} {k : Nat} {c x : Int} : RG σ (sF s 0 97 x) k c = RG σ s k c := by unfold RG RGf RGp RGw; simp only [F_sF_nq kq_0, tr_sF, zz_sF, F_sF_ne (show (38 : Nat) ≠ 97 by decide), F_sF_ne (show (39 : Nat) ≠ 97 by decide), rA_sF, ck3_sF]
theorem RG_l98 {σ s : rS} {k : Nat} {c x : Int} : RG (sF σ 0 98 x) s k c = RG σ s k c := by unfold RG RGf RGp RGw; simp only [F_sF_nq kq_0, tr_sF, zz_sF, F_sF_ne (show (38 : Nat) ≠ 98 by decide), F_sF_ne (show (39 : Nat) ≠ 98 by decide), rA_sF, ck3_sF]
theorem RG_r98 {σ s : rS} {k : Nat} {c x : Int} : RG σ (sF s 0 98 x) k c = RG σ s k c := by unfold RG RGf RGp RGw; simp only [F_sF_nq kq_0, tr_sF, zz_sF, F_sF_ne (show (38 : Nat) ≠ 98 by decide), F_sF_ne (show (39 : Nat) ≠ 98 by decide), rA_sF, ck3_sF]
theorem RG_l99 {σ s : rS} {k : Nat} {c x : Int} : RG (sF σ 0 99 x) s k c = RG σ s k c := by unfold RG RGf RGp RGw; simp only [F_sF_nq kq_0, tr_sF, zz_sF, F_sF_ne (show (38 : Nat) ≠ 99 by decide), F_sF_ne (show (39 : Nat) ≠ 99 by decide), rA_sF, ck3_sF]
theorem RG_r99 {σ s : rS} {k : Nat} {c x : Int} : RG σ (sF s 0 99 x) k c = RG σ s k c := by unfold RG RGf RGp RGw; simp only [F_sF_nq kq_0, tr_sF, zz_sF, F_sF_ne (show (38 : Nat) ≠ 99 by decide), F_sF_ne (show (39 : Nat) ≠ 99 by decide), rA_sF, ck3_sF]
theorem RG_l100 {σ s : rS} {k : Nat} {c x : Int} : RG (sF σ 0 100 x) s k c = RG σ s k c := by unfold RG RGf RGp RGw; simp only [F_sF_nq kq_0, tr_sF, zz_sF, F_sF_ne (show (38 : Nat) ≠ 100 by decide), F_sF_ne (show (39 : Nat) ≠ 100 by decide), rA_sF, ck3_sF]
theorem RG_r100 {σ s : rS} {k : Nat} {c x : Int} : RG σ (sF s 0 100 x) k c = RG σ s k c := by unfold RG RGf RGp RGw; simp only [F_sF_nq kq_0, tr_sF, zz_sF, F_sF_ne (show (38 : Nat) ≠ 100 by decide), F_sF_ne (show (39 : Nat) ≠ 100 by decide), rA_sF, ck3_sF]
theorem RG_l101 {σ s : rS} {k : Nat} {c x : Int} : RG (sF σ 0 101 x) s k c = RG σ s k c := by unfold RG RGf RGp RGw; simp only [F_sF_nq kq_0, tr_sF, zz_sF, F_sF_ne (show (38 : Nat) ≠ 101 by decide), F_sF_ne (show (39 : Nat) ≠ 101 by decide), rA_sF, ck3_sF]
theorem RG_r101 {σ s : rS} {k : Nat} {c x : Int} : RG σ (sF s 0 101 x) k c = RG σ s k c := by unfold RG RGf RGp RGw; simp only [F_sF_nq kq_0, tr_sF, zz_sF, F_sF_ne (show (38 : Nat) ≠ 101 by decide), F_sF_ne (show (39 : Nat) ≠ 101 by decide), rA_sF, ck3_sF]
theorem RG_l103 {σ s : rS} {k : Nat} {c x : Int} : RG (sF σ 0 103 x) s k c = RG σ s k c := by unfold RG RGf RGp RGw; simp only [F_sF_nq kq_0, tr_sF, zz_sF, F_sF_ne (show (38 : Nat) ≠ 103 by decide), F_sF_ne (show (39 : Nat) ≠ 103 by decide), rA_sF, ck3_sF]
theorem RG_r103 {σ s : rS} {k : Nat} {c x : Int} : RG σ (sF s 0 103 x) k c = RG σ s k c := by unfold RG RGf RGp RGw; simp only [F_sF_nq kq_0, tr_sF, zz_sF, F_sF_ne (show (38 : Nat) ≠ 103 by decide), F_sF_ne (show (39 : Nat) ≠ 103 by decide), rA_sF, ck3_sF]
theorem RG_l104 {σ s : rS} {k : Nat} {c x : Int} : RG (sF σ 0 104 x) s k c = RG σ s k c := by unfold RG RGf RGp RGw; simp only [F_sF_nq kq_0, tr_sF, zz_sF, F_sF_ne (show (38 : Nat) ≠ 104 by decide), F_sF_ne (show (39 : Nat) ≠ 104 by decide), rA_sF, ck3_sF]
theorem RG_r104 {σ s : rS} {k : Nat} {c x : Int} : RG σ (sF s 0 104 x) k c = RG σ s k c := by unfold RG RGf RGp RGw; simp only [F_sF_nq kq_0, tr_sF, zz_sF, F_sF_ne (show (38 : Nat) ≠ 104 by decide), F_sF_ne (show (39 : Nat) ≠ 104 by decide), rA_sF, ck3_sF]
theorem RG_l112 {σ s : rS} {k : Nat} {c x : Int} : RG (sF σ 0 112 x) s k c = RG σ s k c := by unfold RG RGf RGp RGw; simp only [F_sF_nq kq_0, tr_sF, zz_sF, F_sF_ne (show (38 : Nat) ≠ 112 by decide), F_sF_ne (show (39 : Nat) ≠ 112 by decide), rA_sF, ck3_sF]
theorem RG_r112 {σ s : rS} {k : Nat} {c x : Int} : RG σ (sF s 0 112 x) k c = RG σ s k c := by unfold RG RGf RGp RGw; simp only [F_sF_nq kq_0, tr_sF, zz_sF, F_sF_ne (show (38 : Nat) ≠ 112 by decide), F_sF_ne (show (39 : Nat) ≠ 112 by decide), rA_sF, ck3_sF]
theorem RG_l113 {σ s : rS} {k : Nat} {c x : Int} : RG (sF σ 0 113 x) s k c = RG σ s k c := by unfold RG RGf RGp RGw; simp only [F_sF_nq kq_0, tr_sF, zz_sF, F_sF_ne (show (38 : Nat) ≠ 113 by decide), F_sF_ne (show (39 : Nat) ≠ 113 by decide), rA_sF, ck3_sF]
theorem RG_r113 {σ s : rS} {k : Nat} {c x : Int} : RG σ (sF s 0 113 x) k c = RG σ s k c := by unfold RG RGf RGp RGw; simp only [F_sF_nq kq_0, tr_sF, zz_sF, F_sF_ne (show (38 : Nat) ≠ 113 by decide), F_sF_ne (show (39 : Nat) ≠ 113 by decide), rA_sF, ck3_sF]
theorem RG_l118 {σ s : rS} {k : Nat} {c x : Int} : RG (sF σ 0 118 x) s k c = RG σ s k c := by unfold RG RGf RGp RGw; simp only [F_sF_nq kq_0, tr_sF, zz_sF, F_sF_ne (show (38 : Nat) ≠ 118 by decide), F_sF_ne (show (39 : Nat) ≠ 118 by decide), rA_sF, ck3_sF]
theorem RG_r118 {σ s : rS} {k : Nat} {c x : Int} : RG σ (sF s 0 118 x) k c = RG σ s k c := by unfold RG RGf RGp RGw; simp only [F_sF_nq kq_0, tr_sF, zz_sF, F_sF_ne (show (38 : Nat) ≠ 118 by decide), F_sF_ne (show (39 : Nat) ≠ 118 by decide), rA_sF, ck3_sF]
theorem RG_l119 {σ s : rS} {k : Nat} {c x : Int} : RG (sF σ 0 119 x) s k c = RG σ s k c := by unfold RG RGf RGp RGw; simp only [F_sF_nq kq_0, tr_sF, zz_sF, F_sF_ne (show (38 : Nat) ≠ 119 by decide), F_sF_ne (show (39 : Nat) ≠ 119 by decide), rA_sF, ck3_sF]
theorem RG_r119 {σ s : rS} {k : Nat} {c x : Int} : RG σ (sF s 0 119 x) k c = RG σ s k c := by unfold RG RGf RGp RGw; simp only [F_sF_nq kq_0, tr_sF, zz_sF, F_sF_ne (show (38 : Nat) ≠ 119 by decide), F_sF_ne (show (39 : Nat) ≠ 119 by decide), rA_sF, ck3_sF]
theorem RG_l122 {σ s : rS} {k : Nat} {c x : Int} : RG (sF σ 0 122 x) s k c = RG σ s k c := by unfold RG RGf RGp RGw; simp only [F_sF_nq kq_0, tr_sF, zz_sF, F_sF_ne (show (38 : Nat) ≠ 122 by decide), F_sF_ne (show (39 : Nat) ≠ 122 by decide), rA_sF, ck3_sF]
theorem RG_r122 {σ s : rS} {k : Nat} {c x : Int} : RG σ (sF s 0 122 x) k c = RG σ s k c := by unfold RG RGf RGp RGw; simp only [F_sF_nq kq_0, tr_sF, zz_sF, F_sF_ne (show (38 : Nat) ≠ 122 by decide), F_sF_ne (show (39 : Nat) ≠ 122 by decide), rA_sF, ck3_sF]
theorem RG_l123 {σ s : rS} {k : Nat} {c x : Int} : RG (sF σ 0 123 x) s k c = RG σ s k c := by unfold RG RGf RGp RGw; simp only [F_sF_nq kq_0, tr_sF, zz_sF, F_sF_ne (show (38 : Nat) ≠ 123 by decide), F_sF_ne (show (39 : Nat) ≠ 123 by decide), rA_sF, ck3_sF]
theorem RG_r123 {σ s : rS} {k : Nat} {c x : Int} : RG σ (sF s 0 123 x) k c = RG σ s k c := by unfold RG RGf RGp RGw; simp only [F_sF_nq kq_0, tr_sF, zz_sF, F_sF_ne (show (38 : Nat) ≠ 123 by decide), F_sF_ne (show (39 : Nat) ≠ 123 by decide), rA_sF, ck3_sF]
theorem RG_l135 {σ s : rS} {k : Nat} {c x : Int} : RG (sF σ 0 135 x) s k c = RG σ s k c := by unfold RG RGf RGp RGw; simp only [F_sF_nq kq_0, tr_sF, zz_sF, F_sF_ne (show (38 : Nat) ≠ 135 by decide), F_sF_ne (show (39 : Nat) ≠ 135 by decide), rA_sF, ck3_sF]
theorem RG_r135 {σ s : rS} {k : Nat} {c x : Int} : RG σ (sF s 0 135 x) k c = RG σ s k c := by unfold RG RGf RGp RGw; simp only [F_sF_nq kq_0, tr_sF, zz_sF, F_sF_ne (show (38 : Nat) ≠ 135 by decide), F_sF_ne (show (39 : Nat) ≠ 135 by decide), rA_sF, ck3_sF]
theorem RG_l137 {σ s : rS} {k : Nat} {c x : Int} : RG (sF σ 0 137 x) s k c = RG σ s k c := by unfold RG RGf RGp RGw; simp only [F_sF_nq kq_0, tr_sF, zz_sF, F_sF_ne (show (38 : Nat) ≠ 137 by decide), F_sF_ne (show (39 : Nat) ≠ 137 by decide), rA_sF, ck3_sF]
theorem RG_r137 {σ s : rS} {k : Nat} {c x : Int} : RG σ (sF s 0 137 x) k c = RG σ s k c := by unfold RG RGf RGp RGw; simp only [F_sF_nq kq_0, tr_sF, zz_sF, F_sF_ne (show (38 : Nat) ≠ 137 by decide), F_sF_ne (show (39 : Nat) ≠ 137 by decide), rA_sF, ck3_sF]
theorem tr_a1 {σ : rS} {k : Nat} {i x : Int} : tr (sA σ 1001 i x) k = tr σ k := tr_out (by decide)
theorem TS_a1 {σ : rS} {k : Nat} {i x : Int} : TS (sA σ 1001 i x) k = TS σ k := TS_out (by decide)
theorem LQ_a1 {σ : rS} {k : Nat} {i x : Int} : LQ (sA σ 1001 i x) k = LQ σ k := LQ_out (by decide)
theorem RG_la1 {σ s : rS} {k : Nat} {c i x : Int} : RG (sA σ 1001 i x) s k c = RG σ s k c := by unfold RG RGf RGp RGw; simp only [rF_sA, tr_out (show 1001 < 2000 ∨ _ from Or.inl (by decide)), zz_out (show 1001 < 2000 ∨ _ from Or.inl (by decide)), A_sA_ne (show (1034 : Nat) ≠ 1001 by decide), A_sA_ne (show (1035 : Nat) ≠ 1001 by decide), A_sA_ne (show (1040 : Nat) ≠ 1001 by decide), ck3_out (show 1001 < 2000 ∨ _ from Or.inl (by decide))]
theorem RG_ra1 {σ s : rS} {k : Nat} {c i x : Int} : RG σ (sA s 1001 i x) k c = RG σ s k c := by unfold RG RGf RGp RGw; simp only [rF_sA, tr_out (show 1001 < 2000 ∨ _ from Or.inl (by decide)), zz_out (show 1001 < 2000 ∨ _ from Or.inl (by decide)), A_sA_ne (show (1034 : Nat) ≠ 1001 by decide), A_sA_ne (show (1035 : Nat) ≠ 1001 by decide), A_sA_ne (show (1040 : Nat) ≠ 1001 by decide), ck3_out (show 1001 < 2000 ∨ _ from Or.inl (by decide))]
theorem tr_a2 {σ : rS} {k : Nat} {i x : Int} : tr (sA σ 1002 i x) k = tr σ k := tr_out (by decide)
theorem TS_a2 {σ : rS} {k : Nat} {i x : Int} : TS (sA σ 1002 i x) k = TS σ k := TS_out (by decide)
theorem LQ_a2 {σ : rS} {k : Nat} {i x : Int} : LQ (sA σ 1002 i x) k = LQ σ k := LQ_out (by decide)
theorem RG_la2 {σ s : rS} {k : Nat} {c i x : Int} : RG (sA σ 1002 i x) s k c = RG σ s k c := by unfold RG RGf RGp RGw; simp only [rF_sA, tr_out (show 1002 < 2000 ∨ _ from Or.inl (by decide)), zz_out (show 1002 < 2000 ∨ _ from Or.inl (by decide)), A_sA_ne (show (1034 : Nat) ≠ 1002 by decide), A_sA_ne (show (1035 : Nat) ≠ 1002 by decide), A_sA_ne (show (1040 : Nat) ≠ 1002 by decide), ck3_out (show 1002 < 2000 ∨ _ from Or.inl (by decide))]
theorem RG_ra2 {σ s : rS} {k : Nat} {c i x : Int} : RG σ (sA s 1002 i x) k c = RG σ s k c := by unfold RG RGf RGp RGw; simp only [rF_sA, tr_out (show 1002 < 2000 ∨ _ from Or.inl (by decide)), zz_out (show 1002 < 2000 ∨ _ from Or.inl (by decide)), A_sA_ne (show (1034 : Nat) ≠ 1002 by decide), A_sA_ne (show (1035 : Nat) ≠ 1002 by decide), A_sA_ne (show (1040 : Nat) ≠ 1002 by decide), ck3_out (show 1002 < 2000 ∨ _ from Or.inl (by decide))]
theorem tr_a5 {σ : rS} {k : Nat} {i x : Int} : tr (sA σ 1005 i x) k = tr σ k := tr_out (by decide)
theorem TS_a5 {σ : rS} {k : Nat} {i x : Int} : TS (sA σ 1005 i x) k = TS σ k := TS_out (by decide)
theorem LQ_a5 {σ : rS} {k : Nat} {i x : Int} : LQ (sA σ 1005 i x) k = LQ σ k := LQ_out (by decide)
theorem RG_la5 {σ s : rS} {k : Nat} {c i x : Int} : RG (sA σ 1005 i x) s k c = RG σ s k c := by unfold RG RGf RGp RGw; simp only [rF_sA, tr_out (show 1005 < 2000 ∨ _ from Or.inl (by decide)), zz_out (show 1005 < 2000 ∨ _ from Or.inl (by decide)), A_sA_ne (show (1034 : Nat) ≠ 1005 by decide), A_sA_ne (show (1035 : Nat) ≠ 1005 by decide), A_sA_ne (show (1040 : Nat) ≠ 1005 by decide), ck3_out (show 1005 < 2000 ∨ _ from Or.inl (by decide))]
theorem RG_ra5 {σ s : rS} {k : Nat} {c i x : Int} : RG σ (sA s 1005 i x) k c = RG σ s k c := by unfold RG RGf RGp RGw; simp only [rF_sA, tr_out (show 1005 < 2000 ∨ _ from Or.inl (by decide)), zz_out (show 1005 < 2000 ∨ _ from Or.inl (by decide)), A_sA_ne (show (1034 : Nat) ≠ 1005 by decide), A_sA_ne (show (1035 : Nat) ≠ 1005 by decide), A_sA_ne (show (1040 : Nat) ≠ 1005 by decide), ck3_out (show 1005 < 2000 ∨ _ from Or.inl (by decide))]
theorem tr_a20 {σ : rS} {k : Nat} {i x : Int} : tr (sA σ 1020 i x) k = tr σ k := tr_out (by decide)
theorem TS_a20 {σ : rS} {k : Nat} {i x : Int} : TS (sA σ 1020 i x) k = TS σ k := TS_out (by decide)
theorem LQ_a20 {σ : rS} {k : Nat} {i x : Int} : LQ (sA σ 1020 i x) k = LQ σ k := LQ_out (by decide)
theorem RG_la20 {σ s : rS} {k : Nat} {c i x : Int} : RG (sA σ 1020 i x) s k c = RG σ s k c := by unfold RG RGf RGp RGw; simp only [rF_sA, tr_out (show 1020 < 2000 ∨ _ from Or.inl (by decide)), zz_out (show 1020 < 2000 ∨ _ from Or.inl (by decide)), A_sA_ne (show (1034 : Nat) ≠ 1020 by decide), A_sA_ne (show (1035 : Nat) ≠ 1020 by decide), A_sA_ne (show (1040 : Nat) ≠ 1020 by decide), ck3_out (show 1020 < 2000 ∨ _ from Or.inl (by decide))]
theorem RG_ra20 {σ s : rS} {k : Nat} {c i x : Int} : RG σ (sA s 1020 i x) k c = RG σ s k c := by unfold RG RGf RGp RGw; simp only [rF_sA, tr_out (show 1020 < 2000 ∨ _ from Or.inl (by decide)), zz_out (show 1020 < 2000 ∨ _ from Or.inl (by decide)), A_sA_ne (show (1034 : Nat) ≠ 1020 by decide), A_sA_ne (show (1035 : Nat) ≠ 1020 by decide), A_sA_ne (show (1040 : Nat) ≠ 1020 by decide), ck3_out (show 1020 < 2000 ∨ _ from Or.inl (by decide))]
theorem tr_a26 {σ : rS} {k : Nat} {i x : Int} : tr (sA σ 1026 i x) k = tr σ k := tr_out (by decide)
theorem TS_a26 {σ : rS} {k : Nat} {i x : Int} : TS (sA σ 1026 i x) k = TS σ k := TS_out (by decide)
theorem LQ_a26 {σ : rS} {k : Nat} {i x : Int} : LQ (sA σ 1026 i x) k = LQ σ k := LQ_out (by decide)
theorem RG_la26 {σ s : rS} {k : Nat} {c i x : Int} : RG (sA σ 1026 i x) s k c = RG σ s k c := by unfold RG RGf RGp RGw; simp only [rF_sA, tr_out (show 1026 < 2000 ∨ _ from Or.inl (by decide)), zz_out (show 1026 < 2000 ∨ _ from Or.inl (by decide)), A_sA_ne (show (1034 : Nat) ≠ 1026 by decide), A_sA_ne (show (1035 : Nat) ≠ 1026 by decide), A_sA_ne (show (1040 : Nat) ≠ 1026 by decide), ck3_out (show 1026 < 2000 ∨ _ from Or.inl (by decide))]
theorem RG_ra26 {σ s : rS} {k : Nat} {c i x : Int} : RG σ (sA s 1026 i x) k c = RG σ s k c := by unfold RG RGf RGp RGw; simp only [rF_sA, tr_out (show 1026 < 2000 ∨ _ from Or.inl (by decide)), zz_out (show 1026 < 2000 ∨ _ from Or.inl (by decide)), A_sA_ne (show (1034 : Nat) ≠ 1026 by decide), A_sA_ne (show (1035 : Nat) ≠ 1026 by decide), A_sA_ne (show (1040 : Nat) ≠ 1026 by decide), ck3_out (show 1026 < 2000 ∨ _ from Or.inl (by decide))]
theorem tr_a27 {σ : rS} {k : Nat} {i x : Int} : tr (sA σ 1027 i x) k = tr σ k := tr_out (by decide)
theorem TS_a27 {σ : rS} {k : Nat} {i x : Int} : TS (sA σ 1027 i x) k = TS σ k := TS_out (by decide)
theorem LQ_a27 {σ : rS} {k : Nat} {i x : Int} : LQ (sA σ 1027 i x) k = LQ σ k := LQ_out (by decide)
theorem RG_la27 {σ s : rS} {k : Nat} {c i x : Int} : RG (sA σ 1027 i x) s k c = RG σ s k c := by unfold RG RGf RGp RGw; simp only [rF_sA, tr_out (show 1027 < 2000 ∨ _ from Or.inl (by decide)), zz_out (show 1027 < 2000 ∨ _ from Or.inl (by decide)), A_sA_ne (show (1034 : Nat) ≠ 1027 by decide), A_sA_ne (show (1035 : Nat) ≠ 1027 by decide), A_sA_ne (show (1040 : Nat) ≠ 1027 by decide), ck3_out (show 1027 < 2000 ∨ _ from Or.inl (by decide))]
theorem RG_ra27 {σ s : rS} {k : Nat} {c i x : Int} : RG σ (sA s 1027 i x) k c = RG σ s k c := by unfold RG RGf RGp RGw; simp only [rF_sA, tr_out (show 1027 < 2000 ∨ _ from Or.inl (by decide)), zz_out (show 1027 < 2000 ∨ _ from Or.inl (by decide)), A_sA_ne (show (1034 : Nat) ≠ 1027 by decide), A_sA_ne (show (1035 : Nat) ≠ 1027 by decide), A_sA_ne (show (1040 : Nat) ≠ 1027 by decide), ck3_out (show 1027 < 2000 ∨ _ from Or.inl (by decide))]
theorem tr_a34 {σ : rS} {k : Nat} {i x : Int} : tr (sA σ 1034 i x) k = tr σ k := tr_out (by decide)
theorem TS_a34 {σ : rS} {k : Nat} {i x : Int} : TS (sA σ 1034 i x) k = TS σ k := TS_out (by decide)
theorem LQ_a34 {σ : rS} {k : Nat} {i x : Int} : LQ (sA σ 1034 i x) k = LQ σ k := LQ_out (by decide)
theorem tr_a35 {σ : rS} {k : Nat} {i x : Int} : tr (sA σ 1035 i x) k = tr σ k := tr_out (by decide)
theorem TS_a35 {σ : rS} {k : Nat} {i x : Int} : TS (sA σ 1035 i x) k = TS σ k := TS_out (by decide)
theorem LQ_a35 {σ : rS} {k : Nat} {i x : Int} : LQ (sA σ 1035 i x) k = LQ σ k := LQ_out (by decide)
theorem tr_a36 {σ : rS} {k : Nat} {i x : Int} : tr (sA σ 1036 i x) k = tr σ k := tr_out (by decide)
theorem TS_a36 {σ : rS} {k : Nat} {i x : Int} : TS (sA σ 1036 i x) k = TS σ k := TS_out (by decide)
theorem LQ_a36 {σ : rS} {k : Nat} {i x : Int} : LQ (sA σ 1036 i x) k = LQ σ k := LQ_out (by decide)
theorem RG_la36 {σ s : rS} {k : Nat} {c i x : Int} : RG (sA σ 1036 i x) s k c = RG σ s k c := by unfold RG RGf RGp RGw; simp only [rF_sA, tr_out (show 1036 < 2000 ∨ _ from Or.inl (by decide)), zz_out (show 1036 < 2000 ∨ _ from Or.inl (by decide)), A_sA_ne (show (1034 : Nat) ≠ 1036 by decide), A_sA_ne (show (1035 : Nat) ≠ 1036 by decide), A_sA_ne (show (1040 : Nat) ≠ 1036 by decide), ck3_out (show 1036 < 2000 ∨ _ from Or.inl (by decide))]
theorem RG_ra36 {σ s : rS} {k : Nat} {c i x : Int} : RG σ (sA s 1036 i x) k c = RG σ s k c := by unfold RG RGf RGp RGw; simp only [rF_sA, tr_out (show 1036 < 2000 ∨ _ from Or.inl (by decide)), zz_out (show 1036 < 2000 ∨ _ from Or.inl (by decide)), A_sA_ne (show (1034 : Nat) ≠ 1036 by decide), A_sA_ne (show (1035 : Nat) ≠ 1036 by decide), A_sA_ne (show (1040 : Nat) ≠ 1036 by decide), ck3_out (show 1036 < 2000 ∨ _ from Or.inl (by decide))]
theorem tr_a37 {σ : rS} {k : Nat} {i x : Int} : tr (sA σ 1037 i x) k = tr σ k := tr_out (by decide)
theorem TS_a37 {σ : rS} {k : Nat} {i x : Int} : TS (sA σ 1037 i x) k = TS σ k := TS_out (by decide)
theorem LQ_a37 {σ : rS} {k : Nat} {i x : Int} : LQ (sA σ 1037 i x) k = LQ σ k := LQ_out (by decide)
theorem RG_la37 {σ s : rS} {k : Nat} {c i x : Int} : RG (sA σ 1037 i x) s k c = RG σ s k c := by unfold RG RGf RGp RGw; simp only [rF_sA, tr_out (show 1037 < 2000 ∨ _ from Or.inl (by decide)), zz_out (show 1037 < 2000 ∨ _ from Or.inl (by decide)), A_sA_ne (show (1034 : Nat) ≠ 1037 by decide), A_sA_ne (show (1035 : Nat) ≠ 1037 by decide), A_sA_ne (show (1040 : Nat) ≠ 1037 by decide), ck3_out (show 1037 < 2000 ∨ _ from Or.inl (by decide))]
theorem RG_ra37 {σ s : rS} {k : Nat} {c i x : Int} : RG σ (sA s 1037 i x) k c = RG σ s k c := by unfold RG RGf RGp RGw; simp only [rF_sA, tr_out (show 1037 < 2000 ∨ _ from Or.inl (by decide)), zz_out (show 1037 < 2000 ∨ _ from Or.inl (by decide)), A_sA_ne (show (1034 : Nat) ≠ 1037 by decide), A_sA_ne (show (1035 : Nat) ≠ 1037 by decide), A_sA_ne (show (1040 : Nat) ≠ 1037 by decide), ck3_out (show 1037 < 2000 ∨ _ from Or.inl (by decide))]
theorem tr_a40 {σ : rS} {k : Nat} {i x : Int} : tr (sA σ 1040 i x) k = tr σ k := tr_out (by decide)
theorem TS_a40 {σ : rS} {k : Nat} {i x : Int} : TS (sA σ 1040 i x) k = TS σ k := TS_out (by decide)
theorem LQ_a40 {σ : rS} {k : Nat} {i x : Int} : LQ (sA σ 1040 i x) k = LQ σ k := LQ_out (by decide)
theorem tr_a46 {σ : rS} {k : Nat} {i x : Int} : tr (sA σ 1046 i x) k = tr σ k := tr_out (by decide)
theorem TS_a46 {σ : rS} {k : Nat} {i x : Int} : TS (sA σ 1046 i x) k = TS σ k := TS_out (by decide)
theorem LQ_a46 {σ : rS} {k : Nat} {i x : Int} : LQ (sA σ 1046 i x) k = LQ σ k := LQ_out (by decide)
theorem RG_la46 {σ s : rS} {k : Nat} {c i x : Int} : RG (sA σ 1046 i x) s k c = RG σ s k c := by unfold RG RGf RGp RGw; simp only [rF_sA, tr_out (show 1046 < 2000 ∨ _ from Or.inl (by decide)), zz_out (show 1046 < 2000 ∨ _ from Or.inl (by decide)), A_sA_ne (show (1034 : Nat) ≠ 1046 by decide), A_sA_ne (show (1035 : Nat) ≠ 1046 by decide), A_sA_ne (show (1040 : Nat) ≠ 1046 by decide), ck3_out (show 1046 < 2000 ∨ _ from Or.inl (by decide))]
theorem RG_ra46 {σ s : rS} {k : Nat} {c i x : Int} : RG σ (sA s 1046 i x) k c = RG σ s k c := by unfold RG RGf RGp RGw; simp only [rF_sA, tr_out (show 1046 < 2000 ∨ _ from Or.inl (by decide)), zz_out (show 1046 < 2000 ∨ _ from Or.inl (by decide)), A_sA_ne (show (1034 : Nat) ≠ 1046 by decide), A_sA_ne (show (1035 : Nat) ≠ 1046 by decide), A_sA_ne (show (1040 : Nat) ≠ 1046 by decide), ck3_out (show 1046 < 2000 ∨ _ from Or.inl (by decide))]
theorem tr_a47 {σ : rS} {k : Nat} {i x : Int} : tr (sA σ 1047 i x) k = tr σ k := tr_out (by decide)
theorem TS_a47 {σ : rS} {k : Nat} {i x : Int} : TS (sA σ 1047 i x) k = TS σ k := TS_out (by decide)
theorem LQ_a47 {σ : rS} {k : Nat} {i x : Int} : LQ (sA σ 1047 i x) k = LQ σ k := LQ_out (by decide)
theorem RG_la47 {σ s : rS} {k : Nat} {c i x : Int} : RG (sA σ 1047 i x) s k c = RG σ s k c := by unfold RG RGf RGp RGw; simp only [rF_sA, tr_out (show 1047 < 2000 ∨ _ from Or.inl (by decide)), zz_out (show 1047 < 2000 ∨ _ from Or.inl (by decide)), A_sA_ne (show (1034 : Nat) ≠ 1047 by decide), A_sA_ne (show (1035 : Nat) ≠ 1047 by decide), A_sA_ne (show (1040 : Nat) ≠ 1047 by decide), ck3_out (show 1047 < 2000 ∨ _ from Or.inl (by decide))]
theorem RG_ra47 {σ s : rS} {k : Nat} {c i x : Int} : RG σ (sA s 1047 i x) k c = RG σ s k c := by unfold RG RGf RGp RGw; simp only [rF_sA, tr_out (show 1047 < 2000 ∨ _ from Or.inl (by decide)), zz_out (show 1047 < 2000 ∨ _ from Or.inl (by decide)), A_sA_ne (show (1034 : Nat) ≠ 1047 by decide), A_sA_ne (show (1035 : Nat) ≠ 1047 by decide), A_sA_ne (show (1040 : Nat) ≠ 1047 by decide), ck3_out (show 1047 < 2000 ∨ _ from Or.inl (by decide))]
theorem tr_a48 {σ : rS} {k : Nat} {i x : Int} : tr (sA σ 1048 i x) k = tr σ k := tr_out (by decide)
theorem TS_a48 {σ : rS} {k : Nat} {i x : Int} : TS (sA σ 1048 i x) k = TS σ k := TS_out (by decide)
theorem LQ_a48 {σ : rS} {k : Nat} {i x : Int} : LQ (sA σ 1048 i x) k = LQ σ k := LQ_out (by decide)
theorem RG_la48 {σ s : rS} {k : Nat} {c i x : Int} : RG (sA σ 1048 i x) s k c = RG σ s k c := by unfold RG RGf RGp RGw; simp only [rF_sA, tr_out (show 1048 < 2000 ∨ _ from Or.inl (by decide)), zz_out (show 1048 < 2000 ∨ _ from Or.inl (by decide)), A_sA_ne (show (1034 : Nat) ≠ 1048 by decide), A_sA_ne (show (1035 : Nat) ≠ 1048 by decide), A_sA_ne (show (1040 : Nat) ≠ 1048 by decide), ck3_out (show 1048 < 2000 ∨ _ from Or.inl (by decide))]
theorem RG_ra48 {σ s : rS} {k : Nat} {c i x : Int} : RG σ (sA s 1048 i x) k c = RG σ s k c := by unfold RG RGf RGp RGw; simp only [rF_sA, tr_out (show 1048 < 2000 ∨ _ from Or.inl (by decide)), zz_out (show 1048 < 2000 ∨ _ from Or.inl (by decide)), A_sA_ne (show (1034 : Nat) ≠ 1048 by decide), A_sA_ne (show (1035 : Nat) ≠ 1048 by decide), A_sA_ne (show (1040 : Nat) ≠ 1048 by decide), ck3_out (show 1048 < 2000 ∨ _ from Or.inl (by decide))]
theorem tr_a49 {σ : rS} {k : Nat} {i x : Int} : tr (sA σ 1049 i x) k = tr σ k := tr_out (by decide)
theorem TS_a49 {σ : rS} {k : Nat} {i x : Int} : TS (sA σ 1049 i x) k = TS σ k := TS_out (by decide)
theorem LQ_a49 {σ : rS} {k : Nat} {i x : Int} : LQ (sA σ 1049 i x) k = LQ σ k := LQ_out (by decide)
theorem RG_la49 {σ s : rS} {k : Nat} {c i x : Int} : RG (sA σ 1049 i x) s k c = RG σ s k c := by unfold RG RGf RGp RGw; simp only [rF_sA, tr_out (show 1049 < 2000 ∨ _ from Or.inl (by decide)), zz_out (show 1049 < 2000 ∨ _ from Or.inl (by decide)), A_sA_ne (show (1034 : Nat) ≠ 1049 by decide), A_sA_ne (show (1035 : Nat) ≠ 1049 by decide), A_sA_ne (show (1040 : Nat) ≠ 1049 by decide), ck3_out (show 1049 < 2000 ∨ _ from Or.inl (by decide))]
theorem RG_ra49 {σ s : rS} {k : Nat} {c i x : Int} : RG σ (sA s 1049 i x) k c = RG σ s k c := by unfold RG RGf RGp RGw; simp only [rF_sA, tr_out (show 1049 < 2000 ∨ _ from Or.inl (by decide)), zz_out (show 1049 < 2000 ∨ _ from Or.inl (by decide)), A_sA_ne (show (1034 : Nat) ≠ 1049 by decide), A_sA_ne (show (1035 : Nat) ≠ 1049 by decide), A_sA_ne (show (1040 : Nat) ≠ 1049 by decide), ck3_out (show 1049 < 2000 ∨ _ from Or.inl (by decide))]
theorem tr_a50 {σ : rS} {k : Nat} {i x : Int} : tr (sA σ 1050 i x) k = tr σ k := tr_out (by decide)
theorem TS_a50 {σ : rS} {k : Nat} {i x : Int} : TS (sA σ 1050 i x) k = TS σ k := TS_out (by decide)
theorem LQ_a50 {σ : rS} {k : Nat} {i x : Int} : LQ (sA σ 1050 i x) k = LQ σ k := LQ_out (by decide)
theorem RG_la50 {σ s : rS} {k : Nat} {c i x : Int} : RG (sA σ 1050 i x) s k c = RG σ s k c := by unfold RG RGf RGp RGw; simp only [rF_sA, tr_out (show 1050 < 2000 ∨ _ from Or.inl (by decide)), zz_out (show 1050 < 2000 ∨ _ from Or.inl (by decide)), A_sA_ne (show (1034 : Nat) ≠ 1050 by decide), A_sA_ne (show (1035 : Nat) ≠ 1050 by decide), A_sA_ne (show (1040 : Nat) ≠ 1050 by decide), ck3_out (show 1050 < 2000 ∨ _ from Or.inl (by decide))]
theorem RG_ra50 {σ s : rS} {k : Nat} {c i x : Int} : RG σ (sA s 1050 i x) k c = RG σ s k c := by unfold RG RGf RGp RGw; simp only [rF_sA, tr_out (show 1050 < 2000 ∨ _ from Or.inl (by decide)), zz_out (show 1050 < 2000 ∨ _ from Or.inl (by decide)), A_sA_ne (show (1034 : Nat) ≠ 1050 by decide), A_sA_ne (show (1035 : Nat) ≠ 1050 by decide), A_sA_ne (show (1040 : Nat) ≠ 1050 by decide), ck3_out (show 1050 < 2000 ∨ _ from Or.inl (by decide))]
theorem tr_a51 {σ : rS} {k : Nat} {i x : Int} : tr (sA σ 1051 i x) k = tr σ k := tr_out (by decide)
theorem TS_a51 {σ : rS} {k : Nat} {i x : Int} : TS (sA σ 1051 i x) k = TS σ k := TS_out (by decide)
theorem LQ_a51 {σ : rS} {k : Nat} {i x : Int} : LQ (sA σ 1051 i x) k = LQ σ k := LQ_out (by decide)
theorem RG_la51 {σ s : rS} {k : Nat} {c i x : Int} : RG (sA σ 1051 i x) s k c = RG σ s k c := by unfold RG RGf RGp RGw; simp only [rF_sA, tr_out (show 1051 < 2000 ∨ _ from Or.inl (by decide)), zz_out (show 1051 < 2000 ∨ _ from Or.inl (by decide)), A_sA_ne (show (1034 : Nat) ≠ 1051 by decide), A_sA_ne (show (1035 : Nat) ≠ 1051 by decide), A_sA_ne (show (1040 : Nat) ≠ 1051 by decide), ck3_out (show 1051 < 2000 ∨ _ from Or.inl (by decide))]
theorem RG_ra51 {σ s : rS} {k : Nat} {c i x : Int} : RG σ (sA s 1051 i x) k c = RG σ s k c := by unfold RG RGf RGp RGw; simp only [rF_sA, tr_out (show 1051 < 2000 ∨ _ from Or.inl (by decide)), zz_out (show 1051 < 2000 ∨ _ from Or.inl (by decide)), A_sA_ne (show (1034 : Nat) ≠ 1051 by decide), A_sA_ne (show (1035 : Nat) ≠ 1051 by decide), A_sA_ne (show (1040 : Nat) ≠ 1051 by decide), ck3_out (show 1051 < 2000 ∨ _ from Or.inl (by decide))]
theorem tr_a52 {σ : rS} {k : Nat} {i x : Int} : tr (sA σ 1052 i x) k = tr σ k := tr_out (by decide)
theorem TS_a52 {σ : rS} {k : Nat} {i x : Int} : TS (sA σ 1052 i x) k = TS σ k := TS_out (by decide)
theorem LQ_a52 {σ : rS} {k : Nat} {i x : Int} : LQ (sA σ 1052 i x) k = LQ σ k := LQ_out (by decide)
theorem RG_la52 {σ s : rS} {k : Nat} {c i x : Int} : RG (sA σ 1052 i x) s k c = RG σ s k c := by unfold RG RGf RGp RGw; simp only [rF_sA, tr_out (show 1052 < 2000 ∨ _ from Or.inl (by decide)), zz_out (show 1052 < 2000 ∨ _ from Or.inl (by decide)), A_sA_ne (show (1034 : Nat) ≠ 1052 by decide), A_sA_ne (show (1035 : Nat) ≠ 1052 by decide), A_sA_ne (show (1040 : Nat) ≠ 1052 by decide), ck3_out (show 1052 < 2000 ∨ _ from Or.inl (by decide))]
theorem RG_ra52 {σ s : rS} {k : Nat} {c i x : Int} : RG σ (sA s 1052 i x) k c = RG σ s k c := by unfold RG RGf RGp RGw; simp only [rF_sA, tr_out (show 1052 < 2000 ∨ _ from Or.inl (by decide)), zz_out (show 1052 < 2000 ∨ _ from Or.inl (by decide)), A_sA_ne (show (1034 : Nat) ≠ 1052 by decide), A_sA_ne (show (1035 : Nat) ≠ 1052 by decide), A_sA_ne (show (1040 : Nat) ≠ 1052 by decide), ck3_out (show 1052 < 2000 ∨ _ from Or.inl (by decide))]
theorem tr_a53 {σ : rS} {k : Nat} {i x : Int} : tr (sA σ 1053 i x) k = tr σ k := tr_out (by decide)
theorem TS_a53 {σ : rS} {k : Nat} {i x : Int} : TS (sA σ 1053 i x) k = TS σ k := TS_out (by decide)
theorem LQ_a53 {σ : rS} {k : Nat} {i x : Int} : LQ (sA σ 1053 i x) k = LQ σ k := LQ_out (by decide)
theorem RG_la53 {σ s : rS} {k : Nat} {c i x : Int} : RG (sA σ 1053 i x) s k c = RG σ s k c := by unfold RG RGf RGp RGw; simp only [rF_sA, tr_out (show 1053 < 2000 ∨ _ from Or.inl (by decide)), zz_out (show 1053 < 2000 ∨ _ from Or.inl (by decide)), A_sA_ne (show (1034 : Nat) ≠ 1053 by decide), A_sA_ne (show (1035 : Nat) ≠ 1053 by decide), A_sA_ne (show (1040 : Nat) ≠ 1053 by decide), ck3_out (show 1053 < 2000 ∨ _ from Or.inl (by decide))]
theorem RG_ra53 {σ s : rS} {k : Nat} {c i x : Int} : RG σ (sA s 1053 i x) k c = RG σ s k c := by unfold RG RGf RGp RGw; simp only [rF_sA, tr_out (show 1053 < 2000 ∨ _ from Or.inl (by decide)), zz_out (show 1053 < 2000 ∨ _ from Or.inl (by decide)), A_sA_ne (show (1034 : Nat) ≠ 1053 by decide), A_sA_ne (show (1035 : Nat) ≠ 1053 by decide), A_sA_ne (show (1040 : Nat) ≠ 1053 by decide), ck3_out (show 1053 < 2000 ∨ _ from Or.inl (by decide))]
theorem tr_a54 {σ : rS} {k : Nat} {i x : Int} : tr (sA σ 1054 i x) k = tr σ k := tr_out (by decide)
theorem TS_a54 {σ : rS} {k : Nat} {i x : Int} : TS (sA σ 1054 i x) k = TS σ k := TS_out (by decide)
theorem LQ_a54 {σ : rS} {k : Nat} {i x : Int} : LQ (sA σ 1054 i x) k = LQ σ k := LQ_out (by decide)
theorem RG_la54 {σ s : rS} {k : Nat} {c i x : Int} : RG (sA σ 1054 i x) s k c = RG σ s k c := by unfold RG RGf RGp RGw; simp only [rF_sA, tr_out (show 1054 < 2000 ∨ _ from Or.inl (by decide)), zz_out (show 1054 < 2000 ∨ _ from Or.inl (by decide)), A_sA_ne (show (1034 : Nat) ≠ 1054 by decide), A_sA_ne (show (1035 : Nat) ≠ 1054 by decide), A_sA_ne (show (1040 : Nat) ≠ 1054 by decide), ck3_out (show 1054 < 2000 ∨ _ from Or.inl (by decide))]
theorem RG_ra54 {σ s : rS} {k : Nat} {c i x : Int} : RG σ (sA s 1054 i x) k c = RG σ s k c := by unfold RG RGf RGp RGw; simp only [rF_sA, tr_out (show 1054 < 2000 ∨ _ from Or.inl (by decide)), zz_out (show 1054 < 2000 ∨ _ from Or.inl (by decide)), A_sA_ne (show (1034 : Nat) ≠ 1054 by decide), A_sA_ne (show (1035 : Nat) ≠ 1054 by decide), A_sA_ne (show (1040 : Nat) ≠ 1054 by decide), ck3_out (show 1054 < 2000 ∨ _ from Or.inl (by decide))]
theorem tr_a55 {σ : rS} {k : Nat} {i x : Int} : tr (sA σ 1055 i x) k = tr σ k := tr_out (by decide)
theorem TS_a55 {σ : rS} {k : Nat} {i x : Int} : TS (sA σ 1055 i x) k = TS σ k := TS_out (by decide)
theorem LQ_a55 {σ : rS} {k : Nat} {i x : Int} : LQ (sA σ 1055 i x) k = LQ σ k := LQ_out (by decide)
theorem RG_la55 {σ s : rS} {k : Nat} {c i x : Int} : RG (sA σ 1055 i x) s k c = RG σ s k c := by unfold RG RGf RGp RGw; simp only [rF_sA, tr_out (show 1055 < 2000 ∨ _ from Or.inl (by decide)), zz_out (show 1055 < 2000 ∨ _ from Or.inl (by decide)), A_sA_ne (show (1034 : Nat) ≠ 1055 by decide), A_sA_ne (show (1035 : Nat) ≠ 1055 by decide), A_sA_ne (show (1040 : Nat) ≠ 1055 by decide), ck3_out (show 1055 < 2000 ∨ _ from Or.inl (by decide))]
theorem RG_ra55 {σ s : rS} {k : Nat} {c i x : Int} : RG σ (sA s 1055 i x) k c = RG σ s k c := by unfold RG RGf RGp RGw; simp only [rF_sA, tr_out (show 1055 < 2000 ∨ _ from Or.inl (by decide)), zz_out (show 1055 < 2000 ∨ _ from Or.inl (by decide)), A_sA_ne (show (1034 : Nat) ≠ 1055 by decide), A_sA_ne (show (1035 : Nat) ≠ 1055 by decide), A_sA_ne (show (1040 : Nat) ≠ 1055 by decide), ck3_out (show 1055 < 2000 ∨ _ from Or.inl (by decide))]
theorem tr_a56 {σ : rS} {k : Nat} {i x : Int} : tr (sA σ 1056 i x) k = tr σ k := tr_out (by decide)
theorem TS_a56 {σ : rS} {k : Nat} {i x : Int} : TS (sA σ 1056 i x) k = TS σ k := TS_out (by decide)
theorem LQ_a56 {σ : rS} {k : Nat} {i x : Int} : LQ (sA σ 1056 i x) k = LQ σ k := LQ_out (by decide)
theorem RG_la56 {σ s : rS} {k : Nat} {c i x : Int} : RG (sA σ 1056 i x) s k c = RG σ s k c := by unfold RG RGf RGp RGw; simp only [rF_sA, tr_out (show 1056 < 2000 ∨ _ from Or.inl (by decide)), zz_out (show 1056 < 2000 ∨ _ from Or.inl (by decide)), A_sA_ne (show (1034 : Nat) ≠ 1056 by decide), A_sA_ne (show (1035 : Nat) ≠ 1056 by decide), A_sA_ne (show (1040 : Nat) ≠ 1056 by decide), ck3_out (show 1056 < 2000 ∨ _ from Or.inl (by decide))]
theorem RG_ra56 {σ s : rS} {k : Nat} {c i x : Int} : RG σ (sA s 1056 i x) k c = RG σ s k c := by unfold RG RGf RGp RGw; simp only [rF_sA, tr_out (show 1056 < 2000 ∨ _ from Or.inl (by decide)), zz_out (show 1056 < 2000 ∨ _ from Or.inl (by decide)), A_sA_ne (show (1034 : Nat) ≠ 1056 by decide), A_sA_ne (show (1035 : Nat) ≠ 1056 by decide), A_sA_ne (show (1040 : Nat) ≠ 1056 by decide), ck3_out (show 1056 < 2000 ∨ _ from Or.inl (by decide))]
theorem tr_a57 {σ : rS} {k : Nat} {i x : Int} : tr (sA σ 1057 i x) k = tr σ k := tr_out (by decide)
theorem TS_a57 {σ : rS} {k : Nat} {i x : Int} : TS (sA σ 1057 i x) k = TS σ k := TS_out (by decide)
theorem LQ_a57 {σ : rS} {k : Nat} {i x : Int} : LQ (sA σ 1057 i x) k = LQ σ k := LQ_out (by decide)
theorem RG_la57 {σ s : rS} {k : Nat} {c i x : Int} : RG (sA σ 1057 i x) s k c = RG σ s k c := by unfold RG RGf RGp RGw; simp only [rF_sA, tr_out (show 1057 < 2000 ∨ _ from Or.inl (by decide)), zz_out (show 1057 < 2000 ∨ _ from Or.inl (by decide)), A_sA_ne (show (1034 : Nat) ≠ 1057 by decide), A_sA_ne (show (1035 : Nat) ≠ 1057 by decide), A_sA_ne (show (1040 : Nat) ≠ 1057 by decide), ck3_out (show 1057 < 2000 ∨ _ from Or.inl (by decide))]
theorem RG_ra57 {σ s : rS} {k : Nat} {c i x : Int} : RG σ (sA s 1057 i x) k c = RG σ s k c := by unfold RG RGf RGp RGw; simp only [rF_sA, tr_out (show 1057 < 2000 ∨ _ from Or.inl (by decide)), zz_out (show 1057 < 2000 ∨ _ from Or.inl (by decide)), A_sA_ne (show (1034 : Nat) ≠ 1057 by decide), A_sA_ne (show (1035 : Nat) ≠ 1057 by decide), A_sA_ne (show (1040 : Nat) ≠ 1057 by decide), ck3_out (show 1057 < 2000 ∨ _ from Or.inl (by decide))]
theorem tr_a58 {σ : rS} {k : Nat} {i x : Int} : tr (sA σ 1058 i x) k = tr σ k := tr_out (by decide)
theorem TS_a58 {σ : rS} {k : Nat} {i x : Int} : TS (sA σ 1058 i x) k = TS σ k := TS_out (by decide)
theorem LQ_a58 {σ : rS} {k : Nat} {i x : Int} : LQ (sA σ 1058 i x) k = LQ σ k := LQ_out (by decide)
theorem RG_la58 {σ s : rS} {k : Nat} {c i x : Int} : RG (sA σ 1058 i x) s k c = RG σ s k c := by unfold RG RGf RGp RGw; simp only [rF_sA, tr_out (show 1058 < 2000 ∨ _ from Or.inl (by decide)), zz_out (show 1058 < 2000 ∨ _ from Or.inl (by decide)), A_sA_ne (show (1034 : Nat) ≠ 1058 by decide), A_sA_ne (show (1035 : Nat) ≠ 1058 by decide), A_sA_ne (show (1040 : Nat) ≠ 1058 by decide), ck3_out (show 1058 < 2000 ∨ _ from Or.inl (by decide))]
theorem RG_ra58 {σ s : rS} {k : Nat} {c i x : Int} : RG σ (sA s 1058 i x) k c = RG σ s k c := by unfold RG RGf RGp RGw; simp only [rF_sA, tr_out (show 1058 < 2000 ∨ _ from Or.inl (by decide)), zz_out (show 1058 < 2000 ∨ _ from Or.inl (by decide)), A_sA_ne (show (1034 : Nat) ≠ 1058 by decide), A_sA_ne (show (1035 : Nat) ≠ 1058 by decide), A_sA_ne (show (1040 : Nat) ≠ 1058 by decide), ck3_out (show 1058 < 2000 ∨ _ from Or.inl (by decide))]
theorem tr_a59 {σ : rS} {k : Nat} {i x : Int} : tr (sA σ 1059 i x) k = tr σ k := tr_out (by decide)
theorem TS_a59 {σ : rS} {k : Nat} {i x : Int} : TS (sA σ 1059 i x) k = TS σ k := TS_out (by decide)
theorem LQ_a59 {σ : rS} {k : Nat} {i x : Int} : LQ (sA σ 1059 i x) k = LQ σ k := LQ_out (by decide)
theorem RG_la59 {σ s : rS} {k : Nat} {c i x : Int} : RG (sA σ 1059 i x) s k c = RG σ s k c := by unfold RG RGf RGp RGw; simp only [rF_sA, tr_out (show 1059 < 2000 ∨ _ from Or.inl (by decide)), zz_out (show 1059 < 2000 ∨ _ from Or.inl (by decide)), A_sA_ne (show (1034 : Nat) ≠ 1059 by decide), A_sA_ne (show (1035 : Nat) ≠ 1059 by decide), A_sA_ne (show (1040 : Nat) ≠ 1059 by decide), ck3_out (show 1059 < 2000 ∨ _ from Or.inl (by decide))]
theorem RG_ra59 {σ s : rS} {k : Nat} {c i x : Int} : RG σ (sA s 1059 i x) k c = RG σ s k c := by unfold RG RGf RGp RGw; simp only [rF_sA, tr_out (show 1059 < 2000 ∨ _ from Or.inl (by decide)), zz_out (show 1059 < 2000 ∨ _ from Or.inl (by decide)), A_sA_ne (show (1034 : Nat) ≠ 1059 by decide), A_sA_ne (show (1035 : Nat) ≠ 1059 by decide), A_sA_ne (show (1040 : Nat) ≠ 1059 by decide), ck3_out (show 1059 < 2000 ∨ _ from Or.inl (by decide))]
theorem tr_a61 {σ : rS} {k : Nat} {i x : Int} : tr (sA σ 1061 i x) k = tr σ k := tr_out (by decide)
theorem TS_a61 {σ : rS} {k : Nat} {i x : Int} : TS (sA σ 1061 i x) k = TS σ k := TS_out (by decide)
theorem LQ_a61 {σ : rS} {k : Nat} {i x : Int} : LQ (sA σ 1061 i x) k = LQ σ k := LQ_out (by decide)
theorem RG_la61 {σ s : rS} {k : Nat} {c i x : Int} : RG (sA σ 1061 i x) s k c = RG σ s k c := by unfold RG RGf RGp RGw; simp only [rF_sA, tr_out (show 1061 < 2000 ∨ _ from Or.inl (by decide)), zz_out (show 1061 < 2000 ∨ _ from Or.inl (by decide)), A_sA_ne (show (1034 : Nat) ≠ 1061 by decide), A_sA_ne (show (1035 : Nat) ≠ 1061 by decide), A_sA_ne (show (1040 : Nat) ≠ 1061 by decide), ck3_out (show 1061 < 2000 ∨ _ from Or.inl (by decide))]
theorem RG_ra61 {σ s : rS} {k : Nat} {c i x : Int} : RG σ (sA s 1061 i x) k c = RG σ s k c := by unfold RG RGf RGp RGw; simp only [rF_sA, tr_out (show 1061 < 2000 ∨ _ from Or.inl (by decide)), zz_out (show 1061 < 2000 ∨ _ from Or.inl (by decide)), A_sA_ne (show (1034 : Nat) ≠ 1061 by decide), A_sA_ne (show (1035 : Nat) ≠ 1061 by decide), A_sA_ne (show (1040 : Nat) ≠ 1061 by decide), ck3_out (show 1061 < 2000 ∨ _ from Or.inl (by decide))]
theorem tr_a62 {σ : rS} {k : Nat} {i x : Int} : tr (sA σ 1062 i x) k = tr σ k := tr_out (by decide)
theorem TS_a62 {σ : rS} {k : Nat} {i x : Int} : TS (sA σ 1062 i x) k = TS σ k := TS_out (by decide)
theorem LQ_a62 {σ : rS} {k : Nat} {i x : Int} : LQ (sA σ 1062 i x) k = LQ σ k := LQ_out (by decide)
theorem RG_la62 {σ s : rS} {k : Nat} {c i x : Int} : RG (sA σ 1062 i x) s k c = RG σ s k c := by unfold RG RGf RGp RGw; simp only [rF_sA, tr_out (show 1062 < 2000 ∨ _ from Or.inl (by decide)), zz_out (show 1062 < 2000 ∨ _ from Or.inl (by decide)), A_sA_ne (show (1034 : Nat) ≠ 1062 by decide), A_sA_ne (show (1035 : Nat) ≠ 1062 by decide), A_sA_ne (show (1040 : Nat) ≠ 1062 by decide), ck3_out (show 1062 < 2000 ∨ _ from Or.inl (by decide))]
theorem RG_ra62 {σ s : rS} {k : Nat} {c i x : Int} : RG σ (sA s 1062 i x) k c = RG σ s k c := by unfold RG RGf RGp RGw; simp only [rF_sA, tr_out (show 1062 < 2000 ∨ _ from Or.inl (by decide)), zz_out (show 1062 < 2000 ∨ _ from Or.inl (by decide)), A_sA_ne (show (1034 : Nat) ≠ 1062 by decide), A_sA_ne (show (1035 : Nat) ≠ 1062 by decide), A_sA_ne (show (1040 : Nat) ≠ 1062 by decide), ck3_out (show 1062 < 2000 ∨ _ from Or.inl (by decide))]
theorem tr_a63 {σ : rS} {k : Nat} {i x : Int} : tr (sA σ 1063 i x) k = tr σ k := tr_out (by decide)
theorem TS_a63 {σ : rS} {k : Nat} {i x : Int} : TS (sA σ 1063 i x) k = TS σ k := TS_out (by decide)
theorem LQ_a63 {σ : rS} {k : Nat} {i x : Int} : LQ (sA σ 1063 i x) k = LQ σ k := LQ_out (by decide)
theorem RG_la63 {σ s : rS} {k : Nat} {c i x : Int} : RG (sA σ 1063 i x) s k c = RG σ s k c := by unfold RG RGf RGp RGw; simp only [rF_sA, tr_out (show 1063 < 2000 ∨ _ from Or.inl (by decide)), zz_out (show 1063 < 2000 ∨ _ from Or.inl (by decide)), A_sA_ne (show (1034 : Nat) ≠ 1063 by decide), A_sA_ne (show (1035 : Nat) ≠ 1063 by decide), A_sA_ne (show (1040 : Nat) ≠ 1063 by decide), ck3_out (show 1063 < 2000 ∨ _ from Or.inl (by decide))]
theorem RG_ra63 {σ s : rS} {k : Nat} {c i x : Int} : RG σ (sA s 1063 i x) k c = RG σ s k c := by unfold RG RGf RGp RGw; simp only [rF_sA, tr_out (show 1063 < 2000 ∨ _ from Or.inl (by decide)), zz_out (show 1063 < 2000 ∨ _ from Or.inl (by decide)), A_sA_ne (show (1034 : Nat) ≠ 1063 by decide), A_sA_ne (show (1035 : Nat) ≠ 1063 by decide), A_sA_ne (show (1040 : Nat) ≠ 1063 by decide), ck3_out (show 1063 < 2000 ∨ _ from Or.inl (by decide))]
theorem tr_a64 {σ : rS} {k : Nat} {i x : Int} : tr (sA σ 1064 i x) k = tr σ k := tr_out (by decide)
theorem TS_a64 {σ : rS} {k : Nat} {i x : Int} : TS (sA σ 1064 i x) k = TS σ k := TS_out (by decide)
theorem LQ_a64 {σ : rS} {k : Nat} {i x : Int} : LQ (sA σ 1064 i x) k = LQ σ k := LQ_out (by decide)
theorem RG_la64 {σ s : rS} {k : Nat} {c i x : Int} : RG (sA σ 1064 i x) s k c = RG σ s k c := by unfold RG RGf RGp RGw; simp only [rF_sA, tr_out (show 1064 < 2000 ∨ _ from Or.inl (by decide)), zz_out (show 1064 < 2000 ∨ _ from Or.inl (by decide)), A_sA_ne (show (1034 : Nat) ≠ 1064 by decide), A_sA_ne (show (1035 : Nat) ≠ 1064 by decide), A_sA_ne (show (1040 : Nat) ≠ 1064 by decide), ck3_out (show 1064 < 2000 ∨ _ from Or.inl (by decide))]
theorem RG_ra64 {σ s : rS} {k : Nat} {c i x : Int} : RG σ (sA s 1064 i x) k c = RG σ s k c := by unfold RG RGf RGp RGw; simp only [rF_sA, tr_out (show 1064 < 2000 ∨ _ from Or.inl (by decide)), zz_out (show 1064 < 2000 ∨ _ from Or.inl (by decide)), A_sA_ne (show (1034 : Nat) ≠ 1064 by decide), A_sA_ne (show (1035 : Nat) ≠ 1064 by decide), A_sA_ne (show (1040 : Nat) ≠ 1064 by decide), ck3_out (show 1064 < 2000 ∨ _ from Or.inl (by decide))]
theorem tr_a69 {σ : rS} {k : Nat} {i x : Int} : tr (sA σ 1069 i x) k = tr σ k := tr_out (by decide)
theorem TS_a69 {σ : rS} {k : Nat} {i x : Int} : TS (sA σ 1069 i x) k = TS σ k := TS_out (by decide)
theorem LQ_a69 {σ : rS} {k : Nat} {i x : Int} : LQ (sA σ 1069 i x) k = LQ σ k := LQ_out (by decide)
theorem RG_la69 {σ s : rS} {k : Nat} {c i x : Int} : RG (sA σ 1069 i x) s k c = RG σ s k c := by unfold RG RGf RGp RGw; simp only [rF_sA, tr_out (show 1069 < 2000 ∨ _ from Or.inl (by decide)), zz_out (show 1069 < 2000 ∨ _ from Or.inl (by decide)), A_sA_ne (show (1034 : Nat) ≠ 1069 by decide), A_sA_ne (show (1035 : Nat) ≠ 1069 by decide), A_sA_ne (show (1040 : Nat) ≠ 1069 by decide), ck3_out (show 1069 < 2000 ∨ _ from Or.inl (by decide))]
theorem RG_ra69 {σ s : rS} {k : Nat} {c i x : Int} : RG σ (sA s 1069 i x) k c = RG σ s k c := by unfold RG RGf RGp RGw; simp only [rF_sA, tr_out (show 1069 < 2000 ∨ _ from Or.inl (by decide)), zz_out (show 1069 < 2000 ∨ _ from Or.inl (by decide)), A_sA_ne (show (1034 : Nat) ≠ 1069 by decide), A_sA_ne (show (1035 : Nat) ≠ 1069 by decide), A_sA_ne (show (1040 : Nat) ≠ 1069 by decide), ck3_out (show 1069 < 2000 ∨ _ from Or.inl (by decide))]
theorem tr_a75 {σ : rS} {k : Nat} {i x : Int} : tr (sA σ 1075 i x) k = tr σ k := tr_out (by decide)
theorem TS_a75 {σ : rS} {k : Nat} {i x : Int} : TS (sA σ 1075 i x) k = TS σ k := TS_out (by decide)
theorem LQ_a75 {σ : rS} {k : Nat} {i x : Int} : LQ (sA σ 1075 i x) k = LQ σ k := LQ_out (by decide)
theorem RG_la75 {σ s : rS} {k : Nat} {c i x : Int} : RG (sA σ 1075 i x) s k c = RG σ s k c := by unfold RG RGf RGp RGw; simp only [rF_sA, tr_out (show 1075 < 2000 ∨ _ from Or.inl (by decide)), zz_out (show 1075 < 2000 ∨ _ from Or.inl (by decide)), A_sA_ne (show (1034 : Nat) ≠ 1075 by decide), A_sA_ne (show (1035 : Nat) ≠ 1075 by decide), A_sA_ne (show (1040 : Nat) ≠ 1075 by decide), ck3_out (show 1075 < 2000 ∨ _ from Or.inl (by decide))]
theorem RG_ra75 {σ s : rS} {k : Nat} {c i x : Int} : RG σ (sA s 1075 i x) k c = RG σ s k c := by unfold RG RGf RGp RGw; simp only [rF_sA, tr_out (show 1075 < 2000 ∨ _ from Or.inl (by decide)), zz_out (show 1075 < 2000 ∨ _ from Or.inl (by decide)), A_sA_ne (show (1034 : Nat) ≠ 1075 by decide), A_sA_ne (show (1035 : Nat) ≠ 1075 by decide), A_sA_ne (show (1040 : Nat) ≠ 1075 by decide), ck3_out (show 1075 < 2000 ∨ _ from Or.inl (by decide))]
theorem tr_a76 {σ : rS} {k : Nat} {i x : Int} : tr (sA σ 1076 i x) k = tr σ k := tr_out (by decide)
theorem TS_a76 {σ : rS} {k : Nat} {i x : Int} : TS (sA σ 1076 i x) k = TS σ k := TS_out (by decide)
theorem LQ_a76 {σ : rS} {k : Nat} {i x : Int} : LQ (sA σ 1076 i x) k = LQ σ k := LQ_out (by decide)
theorem RG_la76 {σ s : rS} {k : Nat} {c i x : Int} : RG (sA σ 1076 i x) s k c = RG σ s k c := by unfold RG RGf RGp RGw; simp only [rF_sA, tr_out (show 1076 < 2000 ∨ _ from Or.inl (by decide)), zz_out (show 1076 < 2000 ∨ _ from Or.inl (by decide)), A_sA_ne (show (1034 : Nat) ≠ 1076 by decide), A_sA_ne (show (1035 : Nat) ≠ 1076 by decide), A_sA_ne (show (1040 : Nat) ≠ 1076 by decide), ck3_out (show 1076 < 2000 ∨ _ from Or.inl (by decide))]
theorem RG_ra76 {σ s : rS} {k : Nat} {c i x : Int} : RG σ (sA s 1076 i x) k c = RG σ s k c := by unfold RG RGf RGp RGw; simp only [rF_sA, tr_out (show 1076 < 2000 ∨ _ from Or.inl (by decide)), zz_out (show 1076 < 2000 ∨ _ from Or.inl (by decide)), A_sA_ne (show (1034 : Nat) ≠ 1076 by decide), A_sA_ne (show (1035 : Nat) ≠ 1076 by decide), A_sA_ne (show (1040 : Nat) ≠ 1076 by decide), ck3_out (show 1076 < 2000 ∨ _ from Or.inl (by decide))]
theorem tr_a77 {σ : rS} {k : Nat} {i x : Int} : tr (sA σ 1077 i x) k = tr σ k := tr_out (by decide)
theorem TS_a77 {σ : rS} {k : Nat} {i x : Int} : TS (sA σ 1077 i x) k = TS σ k := TS_out (by decide)
theorem LQ_a77 {σ : rS} {k : Nat} {i x : Int} : LQ (sA σ 1077 i x) k = LQ σ k := LQ_out (by decide)
theorem RG_la77 {σ s : rS} {k : Nat} {c i x : Int} : RG (sA σ 1077 i x) s k c = RG σ s k c := by unfold RG RGf RGp RGw; simp only [rF_sA, tr_out (show 1077 < 2000 ∨ _ from Or.inl (by decide)), zz_out (show 1077 < 2000 ∨ _ from Or.inl (by decide)), A_sA_ne (show (1034 : Nat) ≠ 1077 by decide), A_sA_ne (show (1035 : Nat) ≠ 1077 by decide), A_sA_ne (show (1040 : Nat) ≠ 1077 by decide), ck3_out (show 1077 < 2000 ∨ _ from Or.inl (by decide))]
theorem RG_ra77 {σ s : rS} {k : Nat} {c i x : Int} : RG σ (sA s 1077 i x) k c = RG σ s k c := by unfold RG RGf RGp RGw; simp only [rF_sA, tr_out (show 1077 < 2000 ∨ _ from Or.inl (by decide)), zz_out (show 1077 < 2000 ∨ _ from Or.inl (by decide)), A_sA_ne (show (1034 : Nat) ≠ 1077 by decide), A_sA_ne (show (1035 : Nat) ≠ 1077 by decide), A_sA_ne (show (1040 : Nat) ≠ 1077 by decide), ck3_out (show 1077 < 2000 ∨ _ from Or.inl (by decide))]
theorem tr_a78 {σ : rS} {k : Nat} {i x : Int} : tr (sA σ 1078 i x) k = tr σ k := tr_out (by decide)
theorem TS_a78 {σ : rS} {k : Nat} {i x : Int} : TS (sA σ 1078 i x) k = TS σ k := TS_out (by decide)
theorem LQ_a78 {σ : rS} {k : Nat} {i x : Int} : LQ (sA σ 1078 i x) k = LQ σ k := LQ_out (by decide)
theorem RG_la78 {σ s : rS} {k : Nat} {c i x : Int} : RG (sA σ 1078 i x) s k c = RG σ s k c := by unfold RG RGf RGp RGw; simp only [rF_sA, tr_out (show 1078 < 2000 ∨ _ from Or.inl (by decide)), zz_out (show 1078 < 2000 ∨ _ from Or.inl (by decide)), A_sA_ne (show (1034 : Nat) ≠ 1078 by decide), A_sA_ne (show (1035 : Nat) ≠ 1078 by decide), A_sA_ne (show (1040 : Nat) ≠ 1078 by decide), ck3_out (show 1078 < 2000 ∨ _ from Or.inl (by decide))]
theorem RG_ra78 {σ s : rS} {k : Nat} {c i x : Int} : RG σ (sA s 1078 i x) k c = RG σ s k c := by unfold RG RGf RGp RGw; simp only [rF_sA, tr_out (show 1078 < 2000 ∨ _ from Or.inl (by decide)), zz_out (show 1078 < 2000 ∨ _ from Or.inl (by decide)), A_sA_ne (show (1034 : Nat) ≠ 1078 by decide), A_sA_ne (show (1035 : Nat) ≠ 1078 by decide), A_sA_ne (show (1040 : Nat) ≠ 1078 by decide), ck3_out (show 1078 < 2000 ∨ _ from Or.inl (by decide))]
theorem tr_a79 {σ : rS} {k : Nat} {i x : Int} : tr (sA σ 1079 i x) k = tr σ k := tr_out (by decide)
theorem TS_a79 {σ : rS} {k : Nat} {i x : Int} : TS (sA σ 1079 i x) k = TS σ k := TS_out (by decide)
theorem LQ_a79 {σ : rS} {k : Nat} {i x : Int} : LQ (sA σ 1079 i x) k = LQ σ k := LQ_out (by decide)
theorem RG_la79 {σ s : rS} {k : Nat} {c i x : Int} : RG (sA σ 1079 i x) s k c = RG σ s k c := by unfold RG RGf RGp RGw; simp only [rF_sA, tr_out (show 1079 < 2000 ∨ _ from Or.inl (by decide)), zz_out (show 1079 < 2000 ∨ _ from Or.inl (by decide)), A_sA_ne (show (1034 : Nat) ≠ 1079 by decide), A_sA_ne (show (1035 : Nat) ≠ 1079 by decide), A_sA_ne (show (1040 : Nat) ≠ 1079 by decide), ck3_out (show 1079 < 2000 ∨ _ from Or.inl (by decide))]
theorem RG_ra79 {σ s : rS} {k : Nat} {c i x : Int} : RG σ (sA s 1079 i x) k c = RG σ s k c := by unfold RG RGf RGp RGw; simp only [rF_sA, tr_out (show 1079 < 2000 ∨ _ from Or.inl (by decide)), zz_out (show 1079 < 2000 ∨ _ from Or.inl (by decide)), A_sA_ne (show (1034 : Nat) ≠ 1079 by decide), A_sA_ne (show (1035 : Nat) ≠ 1079 by decide), A_sA_ne (show (1040 : Nat) ≠ 1079 by decide), ck3_out (show 1079 < 2000 ∨ _ from Or.inl (by decide))]
theorem tr_a84 {σ : rS} {k : Nat} {i x : Int} : tr (sA σ 1084 i x) k = tr σ k := tr_out (by decide)
theorem TS_a84 {σ : rS} {k : Nat} {i x : Int} : TS (sA σ 1084 i x) k = TS σ k := TS_out (by decide)
theorem LQ_a84 {σ : rS} {k : Nat} {i x : Int} : LQ (sA σ 1084 i x) k = LQ σ k := LQ_out (by decide)
theorem RG_la84 {σ s : rS} {k : Nat} {c i x : Int} : RG (sA σ 1084 i x) s k c = RG σ s k c := by unfold RG RGf RGp RGw; simp only [rF_sA, tr_out (show 1084 < 2000 ∨ _ from Or.inl (by decide)), zz_out (show 1084 < 2000 ∨ _ from Or.inl (by decide)), A_sA_ne (show (1034 : Nat) ≠ 1084 by decide), A_sA_ne (show (1035 : Nat) ≠ 1084 by decide), A_sA_ne (show (1040 : Nat) ≠ 1084 by decide), ck3_out (show 1084 < 2000 ∨ _ from Or.inl (by decide))]
theorem RG_ra84 {σ s : rS} {k : Nat} {c i x : Int} : RG σ (sA s 1084 i x) k c = RG σ s k c := by unfold RG RGf RGp RGw; simp only [rF_sA, tr_out (show 1084 < 2000 ∨ _ from Or.inl (by decide)), zz_out (show 1084 < 2000 ∨ _ from Or.inl (by decide)), A_sA_ne (show (1034 : Nat) ≠ 1084 by decide), A_sA_ne (show (1035 : Nat) ≠ 1084 by decide), A_sA_ne (show (1040 : Nat) ≠ 1084 by decide), ck3_out (show 1084 < 2000 ∨ _ from Or.inl (by decide))]
theorem tr_a85 {σ : rS} {k : Nat} {i x : Int} : tr (sA σ 1085 i x) k = tr σ k := tr_out (by decide)
theorem TS_a85 {σ : rS} {k : Nat} {i x : Int} : TS (sA σ 1085 i x) k = TS σ k := TS_out (by decide)
theorem LQ_a85 {σ : rS} {k : Nat} {i x : Int} : LQ (sA σ 1085 i x) k = LQ σ k := LQ_out (by decide)
theorem RG_la85 {σ s : rS} {k : Nat} {c i x : Int} : RG (sA σ 1085 i x) s k c = RG σ s k c := by unfold RG RGf RGp RGw; simp only [rF_sA, tr_out (show 1085 < 2000 ∨ _ from Or.inl (by decide)), zz_out (show 1085 < 2000 ∨ _ from Or.inl (by decide)), A_sA_ne (show (1034 : Nat) ≠ 1085 by decide), A_sA_ne (show (1035 : Nat) ≠ 1085 by decide), A_sA_ne (show (1040 : Nat) ≠ 1085 by decide), ck3_out (show 1085 < 2000 ∨ _ from Or.inl (by decide))]
theorem RG_ra85 {σ s : rS} {k : Nat} {c i x : Int} : RG σ (sA s 1085 i x) k c = RG σ s k c := by unfold RG RGf RGp RGw; simp only [rF_sA, tr_out (show 1085 < 2000 ∨ _ from Or.inl (by decide)), zz_out (show 1085 < 2000 ∨ _ from Or.inl (by decide)), A_sA_ne (show (1034 : Nat) ≠ 1085 by decide), A_sA_ne (show (1035 : Nat) ≠ 1085 by decide), A_sA_ne (show (1040 : Nat) ≠ 1085 by decide), ck3_out (show 1085 < 2000 ∨ _ from Or.inl (by decide))]
theorem tr_a86 {σ : rS} {k : Nat} {i x : Int} : tr (sA σ 1086 i x) k = tr σ k := tr_out (by decide)
theorem TS_a86 {σ : rS} {k : Nat} {i x : Int} : TS (sA σ 1086 i x) k = TS σ k := TS_out (by decide)
theorem LQ_a86 {σ : rS} {k : Nat} {i x : Int} : LQ (sA σ 1086 i x) k = LQ σ k := LQ_out (by decide)
theorem RG_la86 {σ s : rS} {k : Nat} {c i x : Int} : RG (sA σ 1086 i x) s k c = RG σ s k c := by unfold RG RGf RGp RGw; simp only [rF_sA, tr_out (show 1086 < 2000 ∨ _ from Or.inl (by decide)), zz_out (show 1086 < 2000 ∨ _ from Or.inl (by decide)), A_sA_ne (show (1034 : Nat) ≠ 1086 by decide), A_sA_ne (show (1035 : Nat) ≠ 1086 by decide), A_sA_ne (show (1040 : Nat) ≠ 1086 by decide), ck3_out (show 1086 < 2000 ∨ _ from Or.inl (by decide))]
theorem RG_ra86 {σ s : rS} {k : Nat} {c i x : Int} : RG σ (sA s 1086 i x) k c = RG σ s k c := by unfold RG RGf RGp RGw; simp only [rF_sA, tr_out (show 1086 < 2000 ∨ _ from Or.inl (by decide)), zz_out (show 1086 < 2000 ∨ _ from Or.inl (by decide)), A_sA_ne (show (1034 : Nat) ≠ 1086 by decide), A_sA_ne (show (1035 : Nat) ≠ 1086 by decide), A_sA_ne (show (1040 : Nat) ≠ 1086 by decide), ck3_out (show 1086 < 2000 ∨ _ from Or.inl (by decide))]
theorem tr_a87 {σ : rS} {k : Nat} {i x : Int} : tr (sA σ 1087 i x) k = tr σ k := tr_out (by decide)
theorem TS_a87 {σ : rS} {k : Nat} {i x : Int} : TS (sA σ 1087 i x) k = TS σ k := TS_out (by decide)
theorem LQ_a87 {σ : rS} {k : Nat} {i x : Int} : LQ (sA σ 1087 i x) k = LQ σ k := LQ_out (by decide)
theorem RG_la87 {σ s : rS} {k : Nat} {c i x : Int} : RG (sA σ 1087 i x) s k c = RG σ s k c := by unfold RG RGf RGp RGw; simp only [rF_sA, tr_out (show 1087 < 2000 ∨ _ from Or.inl (by decide)), zz_out (show 1087 < 2000 ∨ _ from Or.inl (by decide)), A_sA_ne (show (1034 : Nat) ≠ 1087 by decide), A_sA_ne (show (1035 : Nat) ≠ 1087 by decide), A_sA_ne (show (1040 : Nat) ≠ 1087 by decide), ck3_out (show 1087 < 2000 ∨ _ from Or.inl (by decide))]
theorem RG_ra87 {σ s : rS} {k : Nat} {c i x : Int} : RG σ (sA s 1087 i x) k c = RG σ s k c := by unfold RG RGf RGp RGw; simp only [rF_sA, tr_out (show 1087 < 2000 ∨ _ from Or.inl (by decide)), zz_out (show 1087 < 2000 ∨ _ from Or.inl (by decide)), A_sA_ne (show (1034 : Nat) ≠ 1087 by decide), A_sA_ne (show (1035 : Nat) ≠ 1087 by decide), A_sA_ne (show (1040 : Nat) ≠ 1087 by decide), ck3_out (show 1087 < 2000 ∨ _ from Or.inl (by decide))]
theorem tr_a89 {σ : rS} {k : Nat} {i x : Int} : tr (sA σ 1089 i x) k = tr σ k := tr_out (by decide)
theorem TS_a89 {σ : rS} {k : Nat} {i x : Int} : TS (sA σ 1089 i x) k = TS σ k := TS_out (by decide)
theorem LQ_a89 {σ : rS} {k : Nat} {i x : Int} : LQ (sA σ 1089 i x) k = LQ σ k := LQ_out (by decide)
theorem RG_la89 {σ s : rS} {k : Nat} {c i x : Int} : RG (sA σ 1089 i x) s k c = RG σ s k c := by unfold RG RGf RGp RGw; simp only [rF_sA, tr_out (show 1089 < 2000 ∨ _ from Or.inl (by decide)), zz_out (show 1089 < 2000 ∨ _ from Or.inl (by decide)), A_sA_ne (show (1034 : Nat) ≠ 1089 by decide), A_sA_ne (show (1035 : Nat) ≠ 1089 by decide), A_sA_ne (show (1040 : Nat) ≠ 1089 by decide), ck3_out (show 1089 < 2000 ∨ _ from Or.inl (by decide))]
theorem RG_ra89 {σ s : rS} {k : Nat} {c i x : Int} : RG σ (sA s 1089 i x) k c = RG σ s k c := by unfold RG RGf RGp RGw; simp only [rF_sA, tr_out (show 1089 < 2000 ∨ _ from Or.inl (by decide)), zz_out (show 1089 < 2000 ∨ _ from Or.inl (by decide)), A_sA_ne (show (1034 : Nat) ≠ 1089 by decide), A_sA_ne (show (1035 : Nat) ≠ 1089 by decide), A_sA_ne (show (1040 : Nat) ≠ 1089 by decide), ck3_out (show 1089 < 2000 ∨ _ from Or.inl (by decide))]
theorem tr_a90 {σ : rS} {k : Nat} {i x : Int} : tr (sA σ 1090 i x) k = tr σ k := tr_out (by decide)
theorem TS_a90 {σ : rS} {k : Nat} {i x : Int} : TS (sA σ 1090 i x) k = TS σ k := TS_out (by decide)
theorem LQ_a90 {σ : rS} {k : Nat} {i x : Int} : LQ (sA σ 1090 i x) k = LQ σ k := LQ_out (by decide)
theorem RG_la90 {σ s : rS} {k : Nat} {c i x : Int} : RG (sA σ 1090 i x) s k c = RG σ s k c := by unfold RG RGf RGp RGw; simp only [rF_sA, tr_out (show 1090 < 2000 ∨ _ from Or.inl (by decide)), zz_out (show 1090 < 2000 ∨ _ from Or.inl (by decide)), A_sA_ne (show (1034 : Nat) ≠ 1090 by decide), A_sA_ne (show (1035 : Nat) ≠ 1090 by decide), A_sA_ne (show (1040 : Nat) ≠ 1090 by decide), ck3_out (show 1090 < 2000 ∨ _ from Or.inl (by decide))]
theorem RG_ra90 {σ s : rS} {k : Nat} {c i x : Int} : RG σ (sA s 1090 i x) k c = RG σ s k c := by unfold RG RGf RGp RGw; simp only [rF_sA, tr_out (show 1090 < 2000 ∨ _ from Or.inl (by decide)), zz_out (show 1090 < 2000 ∨ _ from Or.inl (by decide)), A_sA_ne (show (1034 : Nat) ≠ 1090 by decide), A_sA_ne (show (1035 : Nat) ≠ 1090 by decide), A_sA_ne (show (1040 : Nat) ≠ 1090 by decide), ck3_out (show 1090 < 2000 ∨ _ from Or.inl (by decide))]
theorem tr_a91 {σ : rS} {k : Nat} {i x : Int} : tr (sA σ 1091 i x) k = tr σ k := tr_out (by decide)
theorem TS_a91 {σ : rS} {k : Nat} {i x : Int} : TS (sA σ 1091 i x) k = TS σ k := TS_out (by decide)
theorem LQ_a91 {σ : rS} {k : Nat} {i x : Int} : LQ (sA σ 1091 i x) k = LQ σ k := LQ_out (by decide)
theorem RG_la91 {σ s : rS} {k : Nat} {c i x : Int} : RG (sA σ 1091 i x) s k c = RG σ s k c := by unfold RG RGf RGp RGw; simp only [rF_sA, tr_out (show 1091 < 2000 ∨ _ from Or.inl (by decide)), zz_out (show 1091 < 2000 ∨ _ from Or.inl (by decide)), A_sA_ne (show (1034 : Nat) ≠ 1091 by decide), A_sA_ne (show (1035 : Nat) ≠ 1091 by decide), A_sA_ne (show (1040 : Nat) ≠ 1091 by decide), ck3_out (show 1091 < 2000 ∨ _ from Or.inl (by decide))]
theorem RG_ra91 {σ s : rS} {k : Nat} {c i x : Int} : RG σ (sA s 1091 i x) k c = RG σ s k c := by unfold RG RGf RGp RGw; simp only [rF_sA, tr_out (show 1091 < 2000 ∨ _ from Or.inl (by decide)), zz_out (show 1091 < 2000 ∨ _ from Or.inl (by decide)), A_sA_ne (show (1034 : Nat) ≠ 1091 by decide), A_sA_ne (show (1035 : Nat) ≠ 1091 by decide), A_sA_ne (show (1040 : Nat) ≠ 1091 by decide), ck3_out (show 1091 < 2000 ∨ _ from Or.inl (by decide))]
theorem tr_a93 {σ : rS} {k : Nat} {i x : Int} : tr (sA σ 1093 i x) k = tr σ k := tr_out (by decide)
theorem TS_a93 {σ : rS} {k : Nat} {i x : Int} : TS (sA σ 1093 i x) k = TS σ k := TS_out (by decide)
theorem LQ_a93 {σ : rS} {k : Nat} {i x : Int} : LQ (sA σ 1093 i x) k = LQ σ k := LQ_out (by decide)
theorem RG_la93 {σ s : rS} {k : Nat} {c i x : Int} : RG (sA σ 1093 i x) s k c = RG σ s k c := by unfold RG RGf RGp RGw; simp only [rF_sA, tr_out (show 1093 < 2000 ∨ _ from Or.inl (by decide)), zz_out (show 1093 < 2000 ∨ _ from Or.inl (by decide)), A_sA_ne (show (1034 : Nat) ≠ 1093 by decide), A_sA_ne (show (1035 : Nat) ≠ 1093 by decide), A_sA_ne (show (1040 : Nat) ≠ 1093 by decide), ck3_out (show 1093 < 2000 ∨ _ from Or.inl (by decide))]
theorem RG_ra93 {σ s : rS} {k : Nat} {c i x : Int} : RG σ (sA s 1093 i x) k c = RG σ s k c := by unfold RG RGf RGp RGw; simp only [rF_sA, tr_out (show 1093 < 2000 ∨ _ from Or.inl (by decide)), zz_out (show 1093 < 2000 ∨ _ from Or.inl (by decide)), A_sA_ne (show (1034 : Nat) ≠ 1093 by decide), A_sA_ne (show (1035 : Nat) ≠ 1093 by decide), A_sA_ne (show (1040 : Nat) ≠ 1093 by decide), ck3_out (show 1093 < 2000 ∨ _ from Or.inl (by decide))]
theorem tr_a102 {σ : rS} {k : Nat} {i x : Int} : tr (sA σ 1102 i x) k = tr σ k := tr_out (by decide)
theorem TS_a102 {σ : rS} {k : Nat} {i x : Int} : TS (sA σ 1102 i x) k = TS σ k := TS_out (by decide)
theorem LQ_a102 {σ : rS} {k : Nat} {i x : Int} : LQ (sA σ 1102 i x) k = LQ σ k := LQ_out (by decide)
theorem RG_la102 {σ s : rS} {k : Nat} {c i x : Int} : RG (sA σ 1102 i x) s k c = RG σ s k c := by unfold RG RGf RGp RGw; simp only [rF_sA, tr_out (show 1102 < 2000 ∨ _ from Or.inl (by decide)), zz_out (show 1102 < 2000 ∨ _ from Or.inl (by decide)), A_sA_ne (show (1034 : Nat) ≠ 1102 by decide), A_sA_ne (show (1035 : Nat) ≠ 1102 by decide), A_sA_ne (show (1040 : Nat) ≠ 1102 by decide), ck3_out (show 1102 < 2000 ∨ _ from Or.inl (by decide))]
theorem RG_ra102 {σ s : rS} {k : Nat} {c i x : Int} : RG σ (sA s 1102 i x) k c = RG σ s k c := by unfold RG RGf RGp RGw; simp only [rF_sA, tr_out (show 1102 < 2000 ∨ _ from Or.inl (by decide)), zz_out (show 1102 < 2000 ∨ _ from Or.inl (by decide)), A_sA_ne (show (1034 : Nat) ≠ 1102 by decide), A_sA_ne (show (1035 : Nat) ≠ 1102 by decide), A_sA_ne (show (1040 : Nat) ≠ 1102 by decide), ck3_out (show 1102 < 2000 ∨ _ from Or.inl (by decide))]
theorem tr_a105 {σ : rS} {k : Nat} {i x : Int} : tr (sA σ 1105 i x) k = tr σ k := tr_out (by decide)
theorem TS_a105 {σ : rS} {k : Nat} {i x : Int} : TS (sA σ 1105 i x) k = TS σ k := TS_out (by decide)
theorem LQ_a105 {σ : rS} {k : Nat} {i x : Int} : LQ (sA σ 1105 i x) k = LQ σ k := LQ_out (by decide)
theorem RG_la105 {σ s : rS} {k : Nat} {c i x : Int} : RG (sA σ 1105 i x) s k c = RG σ s k c := by unfold RG RGf RGp RGw; simp only [rF_sA, tr_out (show 1105 < 2000 ∨ _ from Or.inl (by decide)), zz_out (show 1105 < 2000 ∨ _ from Or.inl (by decide)), A_sA_ne (show (1034 : Nat) ≠ 1105 by decide), A_sA_ne (show (1035 : Nat) ≠ 1105 by decide), A_sA_ne (show (1040 : Nat) ≠ 1105 by decide), ck3_out (show 1105 < 2000 ∨ _ from Or.inl (by decide))]
theorem RG_ra105 {σ s : rS} {k : Nat} {c i x : Int} : RG σ (sA s 1105 i x) k c = RG σ s k c := by unfold RG RGf RGp RGw; simp only [rF_sA, tr_out (show 1105 < 2000 ∨ _ from Or.inl (by decide)), zz_out (show 1105 < 2000 ∨ _ from Or.inl (by decide)), A_sA_ne (show (1034 : Nat) ≠ 1105 by decide), A_sA_ne (show (1035 : Nat) ≠ 1105 by decide), A_sA_ne (show (1040 : Nat) ≠ 1105 by decide), ck3_out (show 1105 < 2000 ∨ _ from Or.inl (by decide))]
theorem tr_a106 {σ : rS} {k : Nat} {i x : Int} : tr (sA σ 1106 i x) k = tr σ k := tr_out (by decide)
theorem TS_a106 {σ : rS} {k : Nat} {i x : Int} : TS (sA σ 1106 i x) k = TS σ k := TS_out (by decide)
theorem LQ_a106 {σ : rS} {k : Nat} {i x : Int} : LQ (sA σ 1106 i x) k = LQ σ k := LQ_out (by decide)
theorem RG_la106 {σ s : rS} {k : Nat} {c i x : Int} : RG (sA σ 1106 i x) s k c = RG σ s k c := by unfold RG RGf RGp RGw; simp only [rF_sA, tr_out (show 1106 < 2000 ∨ _ from Or.inl (by decide)), zz_out (show 1106 < 2000 ∨ _ from Or.inl (by decide)), A_sA_ne (show (1034 : Nat) ≠ 1106 by decide), A_sA_ne (show (1035 : Nat) ≠ 1106 by decide), A_sA_ne (show (1040 : Nat) ≠ 1106 by decide), ck3_out (show 1106 < 2000 ∨ _ from Or.inl (by decide))]
theorem RG_ra106 {σ s : rS} {k : Nat} {c i x : Int} : RG σ (sA s 1106 i x) k c = RG σ s k c := by unfold RG RGf RGp RGw; simp only [rF_sA, tr_out (show 1106 < 2000 ∨ _ from Or.inl (by decide)), zz_out (show 1106 < 2000 ∨ _ from Or.inl (by decide)), A_sA_ne (show (1034 : Nat) ≠ 1106 by decide), A_sA_ne (show (1035 : Nat) ≠ 1106 by decide), A_sA_ne (show (1040 : Nat) ≠ 1106 by decide), ck3_out (show 1106 < 2000 ∨ _ from Or.inl (by decide))]
theorem tr_a107 {σ : rS} {k : Nat} {i x : Int} : tr (sA σ 1107 i x) k = tr σ k := tr_out (by decide)
theorem TS_a107 {σ : rS} {k : Nat} {i x : Int} : TS (sA σ 1107 i x) k = TS σ k := TS_out (by decide)
theorem LQ_a107 {σ : rS} {k : Nat} {i x : Int} : LQ (sA σ 1107 i x) k = LQ σ k := LQ_out (by decide)
theorem RG_la107 {σ s : rS} {k : Nat} {c i x : Int} : RG (sA σ 1107 i x) s k c = RG σ s k c := by unfold RG RGf RGp RGw; simp only [rF_sA, tr_out (show 1107 < 2000 ∨ _ from Or.inl (by decide)), zz_out (show 1107 < 2000 ∨ _ from Or.inl (by decide)), A_sA_ne (show (1034 : Nat) ≠ 1107 by decide), A_sA_ne (show (1035 : Nat) ≠ 1107 by decide), A_sA_ne (show (1040 : Nat) ≠ 1107 by decide), ck3_out (show 1107 < 2000 ∨ _ from Or.inl (by decide))]
theorem RG_ra107 {σ s : rS} {k : Nat} {c i x : Int} : RG σ (sA s 1107 i x) k c = RG σ s k c := by unfold RG RGf RGp RGw; simp only [rF_sA, tr_out (show 1107 < 2000 ∨ _ from Or.inl (by decide)), zz_out (show 1107 < 2000 ∨ _ from Or.inl (by decide)), A_sA_ne (show (1034 : Nat) ≠ 1107 by decide), A_sA_ne (show (1035 : Nat) ≠ 1107 by decide), A_sA_ne (show (1040 : Nat) ≠ 1107 by decide), ck3_out (show 1107 < 2000 ∨ _ from Or.inl (by decide))]
theorem tr_a108 {σ : rS} {k : Nat} {i x : Int} : tr (sA σ 1108 i x) k = tr σ k := tr_out (by decide)
theorem TS_a108 {σ : rS} {k : Nat} {i x : Int} : TS (sA σ 1108 i x) k = TS σ k := TS_out (by decide)
theorem LQ_a108 {σ : rS} {k : Nat} {i x : Int} : LQ (sA σ 1108 i x) k = LQ σ k := LQ_out (by decide)
theorem RG_la108 {σ s : rS} {k : Nat} {c i x : Int} : RG (sA σ 1108 i x) s k c = RG σ s k c := by unfold RG RGf RGp RGw; simp only [rF_sA, tr_out (show 1108 < 2000 ∨ _ from Or.inl (by decide)), zz_out (show 1108 < 2000 ∨ _ from Or.inl (by decide)), A_sA_ne (show (1034 : Nat) ≠ 1108 by decide), A_sA_ne (show (1035 : Nat) ≠ 1108 by decide), A_sA_ne (show (1040 : Nat) ≠ 1108 by decide), ck3_out (show 1108 < 2000 ∨ _ from Or.inl (by decide))]
theorem RG_ra108 {σ s : rS} {k : Nat} {c i x : Int} : RG σ (sA s 1108 i x) k c = RG σ s k c := by unfold RG RGf RGp RGw; simp only [rF_sA, tr_out (show 1108 < 2000 ∨ _ from Or.inl (by decide)), zz_out (show 1108 < 2000 ∨ _ from Or.inl (by decide)), A_sA_ne (show (1034 : Nat) ≠ 1108 by decide), A_sA_ne (show (1035 : Nat) ≠ 1108 by decide), A_sA_ne (show (1040 : Nat) ≠ 1108 by decide), ck3_out (show 1108 < 2000 ∨ _ from Or.inl (by decide))]
theorem tr_a109 {σ : rS} {k : Nat} {i x : Int} : tr (sA σ 1109 i x) k = tr σ k := tr_out (by decide)
theorem TS_a109 {σ : rS} {k : Nat} {i x : Int} : TS (sA σ 1109 i x) k = TS σ k := TS_out (by decide)
theorem LQ_a109 {σ : rS} {k : Nat} {i x : Int} : LQ (sA σ 1109 i x) k = LQ σ k := LQ_out (by decide)
theorem RG_la109 {σ s : rS} {k : Nat} {c i x : Int} : RG (sA σ 1109 i x) s k c = RG σ s k c := by unfold RG RGf RGp RGw; simp only [rF_sA, tr_out (show 1109 < 2000 ∨ _ from Or.inl (by decide)), zz_out (show 1109 < 2000 ∨ _ from Or.inl (by decide)), A_sA_ne (show (1034 : Nat) ≠ 1109 by decide), A_sA_ne (show (1035 : Nat) ≠ 1109 by decide), A_sA_ne (show (1040 : Nat) ≠ 1109 by decide), ck3_out (show 1109 < 2000 ∨ _ from Or.inl (by decide))]
theorem RG_ra109 {σ s : rS} {k : Nat} {c i x : Int} : RG σ (sA s 1109 i x) k c = RG σ s k c := by unfold RG RGf RGp RGw; simp only [rF_sA, tr_out (show 1109 < 2000 ∨ _ from Or.inl (by decide)), zz_out (show 1109 < 2000 ∨ _ from Or.inl (by decide)), A_sA_ne (show (1034 : Nat) ≠ 1109 by decide), A_sA_ne (show (1035 : Nat) ≠ 1109 by decide), A_sA_ne (show (1040 : Nat) ≠ 1109 by decide), ck3_out (show 1109 < 2000 ∨ _ from Or.inl (by decide))]
theorem tr_a110 {σ : rS} {k : Nat} {i x : Int} : tr (sA σ 1110 i x) k = tr σ k := tr_out (by decide)
theorem TS_a110 {σ : rS} {k : Nat} {i x : Int} : TS (sA σ 1110 i x) k = TS σ k := TS_out (by decide)
theorem LQ_a110 {σ : rS} {k : Nat} {i x : Int} : LQ (sA σ 1110 i x) k = LQ σ k := LQ_out (by decide)
theorem RG_la110 {σ s : rS} {k : Nat} {c i x : Int} : RG (sA σ 1110 i x) s k c = RG σ s k c := by unfold RG RGf RGp RGw; simp only [rF_sA, tr_out (show 1110 < 2000 ∨ _ from Or.inl (by decide)), zz_out (show 1110 < 2000 ∨ _ from Or.inl (by decide)), A_sA_ne (show (1034 : Nat) ≠ 1110 by decide), A_sA_ne (show (1035 : Nat) ≠ 1110 by decide), A_sA_ne (show (1040 : Nat) ≠ 1110 by decide), ck3_out (show 1110 < 2000 ∨ _ from Or.inl (by decide))]
theorem RG_ra110 {σ s : rS} {k : Nat} {c i x : Int} : RG σ (sA s 1110 i x) k c = RG σ s k c := by unfold RG RGf RGp RGw; simp only [rF_sA, tr_out (show 1110 < 2000 ∨ _ from Or.inl (by decide)), zz_out (show 1110 < 2000 ∨ _ from Or.inl (by decide)), A_sA_ne (show (1034 : Nat) ≠ 1110 by decide), A_sA_ne (show (1035 : Nat) ≠ 1110 by decide), A_sA_ne (show (1040 : Nat) ≠ 1110 by decide), ck3_out (show 1110 < 2000 ∨ _ from Or.inl (by decide))]
theorem tr_a111 {σ : rS} {k : Nat} {i x : Int} : tr (sA σ 1111 i x) k = tr σ k := tr_out (by decide)
theorem TS_a111 {σ : rS} {k : Nat} {i x : Int} : TS (sA σ 1111 i x) k = TS σ k := TS_out (by decide)
theorem LQ_a111 {σ : rS} {k : Nat} {i x : Int} : LQ (sA σ 1111 i x) k = LQ σ k := LQ_out (by decide)
theorem RG_la111 {σ s : rS} {k : Nat} {c i x : Int} : RG (sA σ 1111 i x) s k c = RG σ s k c := by unfold RG RGf RGp RGw; simp only [rF_sA, tr_out (show 1111 < 2000 ∨ _ from Or.inl (by decide)), zz_out (show 1111 < 2000 ∨ _ from Or.inl (by decide)), A_sA_ne (show (1034 : Nat) ≠ 1111 by decide), A_sA_ne (show (1035 : Nat) ≠ 1111 by decide), A_sA_ne (show (1040 : Nat) ≠ 1111 by decide), ck3_out (show 1111 < 2000 ∨ _ from Or.inl (by decide))]
theorem RG_ra111 {σ s : rS} {k : Nat} {c i x : Int} : RG σ (sA s 1111 i x) k c = RG σ s k c := by unfold RG RGf RGp RGw; simp only [rF_sA, tr_out (show 1111 < 2000 ∨ _ from Or.inl (by decide)), zz_out (show 1111 < 2000 ∨ _ from Or.inl (by decide)), A_sA_ne (show (1034 : Nat) ≠ 1111 by decide), A_sA_ne (show (1035 : Nat) ≠ 1111 by decide), A_sA_ne (show (1040 : Nat) ≠ 1111 by decide), ck3_out (show 1111 < 2000 ∨ _ from Or.inl (by decide))]
theorem tr_a114 {σ : rS} {k : Nat} {i x : Int} : tr (sA σ 1114 i x) k = tr σ k := tr_out (by decide)
theorem TS_a114 {σ : rS} {k : Nat} {i x : Int} : TS (sA σ 1114 i x) k = TS σ k := TS_out (by decide)
theorem LQ_a114 {σ : rS} {k : Nat} {i x : Int} : LQ (sA σ 1114 i x) k = LQ σ k := LQ_out (by decide)
theorem RG_la114 {σ s : rS} {k : Nat} {c i x : Int} : RG (sA σ 1114 i x) s k c = RG σ s k c := by unfold RG RGf RGp RGw; simp only [rF_sA, tr_out (show 1114 < 2000 ∨ _ from Or.inl (by decide)), zz_out (show 1114 < 2000 ∨ _ from Or.inl (by decide)), A_sA_ne (show (1034 : Nat) ≠ 1114 by decide), A_sA_ne (show (1035 : Nat) ≠ 1114 by decide), A_sA_ne (show (1040 : Nat) ≠ 1114 by decide), ck3_out (show 1114 < 2000 ∨ _ from Or.inl (by decide))]
theorem RG_ra114 {σ s : rS} {k : Nat} {c i x : Int} : RG σ (sA s 1114 i x) k c = RG σ s k c := by unfold RG RGf RGp RGw; simp only [rF_sA, tr_out (show 1114 < 2000 ∨ _ from Or.inl (by decide)), zz_out (show 1114 < 2000 ∨ _ from Or.inl (by decide)), A_sA_ne (show (1034 : Nat) ≠ 1114 by decide), A_sA_ne (show (1035 : Nat) ≠ 1114 by decide), A_sA_ne (show (1040 : Nat) ≠ 1114 by decide), ck3_out (show 1114 < 2000 ∨ _ from Or.inl (by decide))]
theorem tr_a115 {σ : rS} {k : Nat} {i x : Int} : tr (sA σ 1115 i x) k = tr σ k := tr_out (by decide)
theorem TS_a115 {σ : rS} {k : Nat} {i x : Int} : TS (sA σ 1115 i x) k = TS σ k := TS_out (by decide)
theorem LQ_a115 {σ : rS} {k : Nat} {i x : Int} : LQ (sA σ 1115 i x) k = LQ σ k := LQ_out (by decide)
theorem RG_la115 {σ s : rS} {k : Nat} {c i x : Int} : RG (sA σ 1115 i x) s k c = RG σ s k c := by unfold RG RGf RGp RGw; simp only [rF_sA, tr_out (show 1115 < 2000 ∨ _ from Or.inl (by decide)), zz_out (show 1115 < 2000 ∨ _ from Or.inl (by decide)), A_sA_ne (show (1034 : Nat) ≠ 1115 by decide), A_sA_ne (show (1035 : Nat) ≠ 1115 by decide), A_sA_ne (show (1040 : Nat) ≠ 1115 by decide), ck3_out (show 1115 < 2000 ∨ _ from Or.inl (by decide))]
theorem RG_ra115 {σ s : rS} {k : Nat} {c i x : Int} : RG σ (sA s 1115 i x) k c = RG σ s k c := by unfold RG RGf RGp RGw; simp only [rF_sA, tr_out (show 1115 < 2000 ∨ _ from Or.inl (by decide)), zz_out (show 1115 < 2000 ∨ _ from Or.inl (by decide)), A_sA_ne (show (1034 : Nat) ≠ 1115 by decide), A_sA_ne (show (1035 : Nat) ≠ 1115 by decide), A_sA_ne (show (1040 : Nat) ≠ 1115 by decide), ck3_out (show 1115 < 2000 ∨ _ from Or.inl (by decide))]
theorem tr_a116 {σ : rS} {k : Nat} {i x : Int} : tr (sA σ 1116 i x) k = tr σ k := tr_out (by decide)
theorem TS_a116 {σ : rS} {k : Nat} {i x : Int} : TS (sA σ 1116 i x) k = TS σ k := TS_out (by decide)
theorem LQ_a116 {σ : rS} {k : Nat} {i x : Int} : LQ (sA σ 1116 i x) k = LQ σ k := LQ_out (by decide)
theorem RG_la116 {σ s : rS} {k : Nat} {c i x : Int} : RG (sA σ 1116 i x) s k c = RG σ s k c := by unfold RG RGf RGp RGw; simp only [rF_sA, tr_out (show 1116 < 2000 ∨ _ from Or.inl (by decide)), zz_out (show 1116 < 2000 ∨ _ from Or.inl (by decide)), A_sA_ne (show (1034 : Nat) ≠ 1116 by decide), A_sA_ne (show (1035 : Nat) ≠ 1116 by decide), A_sA_ne (show (1040 : Nat) ≠ 1116 by decide), ck3_out (show 1116 < 2000 ∨ _ from Or.inl (by decide))]
theorem RG_ra116 {σ s : rS} {k : Nat} {c i x : Int} : RG σ (sA s 1116 i x) k c = RG σ s k c := by unfold RG RGf RGp RGw; simp only [rF_sA, tr_out (show 1116 < 2000 ∨ _ from Or.inl (by decide)), zz_out (show 1116 < 2000 ∨ _ from Or.inl (by decide)), A_sA_ne (show (1034 : Nat) ≠ 1116 by decide), A_sA_ne (show (1035 : Nat) ≠ 1116 by decide), A_sA_ne (show (1040 : Nat) ≠ 1116 by decide), ck3_out (show 1116 < 2000 ∨ _ from Or.inl (by decide))]
theorem tr_a117 {σ : rS} {k : Nat} {i x : Int} : tr (sA σ 1117 i x) k = tr σ k := tr_out (by decide)
theorem TS_a117 {σ : rS} {k : Nat} {i x : Int} : TS (sA σ 1117 i x) k = TS σ k := TS_out (by decide)
theorem LQ_a117 {σ : rS} {k : Nat} {i x : Int} : LQ (sA σ 1117 i x) k = LQ σ k := LQ_out (by decide)
theorem RG_la117 {σ s : rS} {k : Nat} {c i x : Int} : RG (sA σ 1117 i x) s k c = RG σ s k c := by unfold RG RGf RGp RGw; simp only [rF_sA, tr_out (show 1117 < 2000 ∨ _ from Or.inl (by decide)), zz_out (show 1117 < 2000 ∨ _ from Or.inl (by decide)), A_sA_ne (show (1034 : Nat) ≠ 1117 by decide), A_sA_ne (show (1035 : Nat) ≠ 1117 by decide), A_sA_ne (show (1040 : Nat) ≠ 1117 by decide), ck3_out (show 1117 < 2000 ∨ _ from Or.inl (by decide))]
theorem RG_ra117 {σ s : rS} {k : Nat} {c i x : Int} : RG σ (sA s 1117 i x) k c = RG σ s k c := by unfold RG RGf RGp RGw; simp only [rF_sA, tr_out (show 1117 < 2000 ∨ _ from Or.inl (by decide)), zz_out (show 1117 < 2000 ∨ _ from Or.inl (by decide)), A_sA_ne (show (1034 : Nat) ≠ 1117 by decide), A_sA_ne (show (1035 : Nat) ≠ 1117 by decide), A_sA_ne (show (1040 : Nat) ≠ 1117 by decide), ck3_out (show 1117 < 2000 ∨ _ from Or.inl (by decide))]
theorem tr_a120 {σ : rS} {k : Nat} {i x : Int} : tr (sA σ 1120 i x) k = tr σ k := tr_out (by decide)
theorem TS_a120 {σ : rS} {k : Nat} {i x : Int} : TS (sA σ 1120 i x) k = TS σ k := TS_out (by decide)
theorem LQ_a120 {σ : rS} {k : Nat} {i x : Int} : LQ (sA σ 1120 i x) k = LQ σ k := LQ_out (by decide)
theorem RG_la120 {σ s : rS} {k : Nat} {c i x : Int} : RG (sA σ 1120 i x) s k c = RG σ s k c := by unfold RG RGf RGp RGw; simp only [rF_sA, tr_out (show 1120 < 2000 ∨ _ from Or.inl (by decide)), zz_out (show 1120 < 2000 ∨ _ from Or.inl (by decide)), A_sA_ne (show (1034 : Nat) ≠ 1120 by decide), A_sA_ne (show (1035 : Nat) ≠ 1120 by decide), A_sA_ne (show (1040 : Nat) ≠ 1120 by decide), ck3_out (show 1120 < 2000 ∨ _ from Or.inl (by decide))]
theorem RG_ra120 {σ s : rS} {k : Nat} {c i x : Int} : RG σ (sA s 1120 i x) k c = RG σ s k c := by unfold RG RGf RGp RGw; simp only [rF_sA, tr_out (show 1120 < 2000 ∨ _ from Or.inl (by decide)), zz_out (show 1120 < 2000 ∨ _ from Or.inl (by decide)), A_sA_ne (show (1034 : Nat) ≠ 1120 by decide), A_sA_ne (show (1035 : Nat) ≠ 1120 by decide), A_sA_ne (show (1040 : Nat) ≠ 1120 by decide), ck3_out (show 1120 < 2000 ∨ _ from Or.inl (by decide))]
theorem tr_a121 {σ : rS} {k : Nat} {i x : Int} : tr (sA σ 1121 i x) k = tr σ k := tr_out (by decide)
theorem TS_a121 {σ : rS} {k : Nat} {i x : Int} : TS (sA σ 1121 i x) k = TS σ k := TS_out (by decide)
theorem LQ_a121 {σ : rS} {k : Nat} {i x : Int} : LQ (sA σ 1121 i x) k = LQ σ k := LQ_out (by decide)
theorem RG_la121 {σ s : rS} {k : Nat} {c i x : Int} : RG (sA σ 1121 i x) s k c = RG σ s k c := by unfold RG RGf RGp RGw; simp only [rF_sA, tr_out (show 1121 < 2000 ∨ _ from Or.inl (by decide)), zz_out (show 1121 < 2000 ∨ _ from Or.inl (by decide)), A_sA_ne (show (1034 : Nat) ≠ 1121 by decide), A_sA_ne (show (1035 : Nat) ≠ 1121 by decide), A_sA_ne (show (1040 : Nat) ≠ 1121 by decide), ck3_out (show 1121 < 2000 ∨ _ from Or.inl (by decide))]
theorem RG_ra121 {σ s : rS} {k : Nat} {c i x : Int} : RG σ (sA s 1121 i x) k c = RG σ s k c := by unfold RG RGf RGp RGw; simp only [rF_sA, tr_out (show 1121 < 2000 ∨ _ from Or.inl (by decide)), zz_out (show 1121 < 2000 ∨ _ from Or.inl (by decide)), A_sA_ne (show (1034 : Nat) ≠ 1121 by decide), A_sA_ne (show (1035 : Nat) ≠ 1121 by decide), A_sA_ne (show (1040 : Nat) ≠ 1121 by decide), ck3_out (show 1121 < 2000 ∨ _ from Or.inl (by decide))]
theorem tr_a124 {σ : rS} {k : Nat} {i x : Int} : tr (sA σ 1124 i x) k = tr σ k := tr_out (by decide)
theorem TS_a124 {σ : rS} {k : Nat} {i x : Int} : TS (sA σ 1124 i x) k = TS σ k := TS_out (by decide)
theorem LQ_a124 {σ : rS} {k : Nat} {i x : Int} : LQ (sA σ 1124 i x) k = LQ σ k := LQ_out (by decide)
theorem RG_la124 {σ s : rS} {k : Nat} {c i x : Int} : RG (sA σ 1124 i x) s k c = RG σ s k c := by unfold RG RGf RGp RGw; simp only [rF_sA, tr_out (show 1124 < 2000 ∨ _ from Or.inl (by decide)), zz_out (show 1124 < 2000 ∨ _ from Or.inl (by decide)), A_sA_ne (show (1034 : Nat) ≠ 1124 by decide), A_sA_ne (show (1035 : Nat) ≠ 1124 by decide), A_sA_ne (show (1040 : Nat) ≠ 1124 by decide), ck3_out (show 1124 < 2000 ∨ _ from Or.inl (by decide))]
theorem RG_ra124 {σ s : rS} {k : Nat} {c i x : Int} : RG σ (sA s 1124 i x) k c = RG σ s k c := by unfold RG RGf RGp RGw; simp only [rF_sA, tr_out (show 1124 < 2000 ∨ _ from Or.inl (by decide)), zz_out (show 1124 < 2000 ∨ _ from Or.inl (by decide)), A_sA_ne (show (1034 : Nat) ≠ 1124 by decide), A_sA_ne (show (1035 : Nat) ≠ 1124 by decide), A_sA_ne (show (1040 : Nat) ≠ 1124 by decide), ck3_out (show 1124 < 2000 ∨ _ from Or.inl (by decide))]
theorem tr_a125 {σ : rS} {k : Nat} {i x : Int} : tr (sA σ 1125 i x) k = tr σ k := tr_out (by decide)
theorem TS_a125 {σ : rS} {k : Nat} {i x : Int} : TS (sA σ 1125 i x) k = TS σ k := TS_out (by decide)
theorem LQ_a125 {σ : rS} {k : Nat} {i x : Int} : LQ (sA σ 1125 i x) k = LQ σ k := LQ_out (by decide)
theorem RG_la125 {σ s : rS} {k : Nat} {c i x : Int} : RG (sA σ 1125 i x) s k c = RG σ s k c := by unfold RG RGf RGp RGw; simp only [rF_sA, tr_out (show 1125 < 2000 ∨ _ from Or.inl (by decide)), zz_out (show 1125 < 2000 ∨ _ from Or.inl (by decide)), A_sA_ne (show (1034 : Nat) ≠ 1125 by decide), A_sA_ne (show (1035 : Nat) ≠ 1125 by decide), A_sA_ne (show (1040 : Nat) ≠ 1125 by decide), ck3_out (show 1125 < 2000 ∨ _ from Or.inl (by decide))]
theorem RG_ra125 {σ s : rS} {k : Nat} {c i x : Int} : RG σ (sA s 1125 i x) k c = RG σ s k c := by unfold RG RGf RGp RGw; simp only [rF_sA, tr_out (show 1125 < 2000 ∨ _ from Or.inl (by decide)), zz_out (show 1125 < 2000 ∨ _ from Or.inl (by decide)), A_sA_ne (show (1034 : Nat) ≠ 1125 by decide), A_sA_ne (show (1035 : Nat) ≠ 1125 by decide), A_sA_ne (show (1040 : Nat) ≠ 1125 by decide), ck3_out (show 1125 < 2000 ∨ _ from Or.inl (by decide))]
theorem tr_a126 {σ : rS} {k : Nat} {i x : Int} : tr (sA σ 1126 i x) k = tr σ k := tr_out (by decide)
theorem TS_a126 {σ : rS} {k : Nat} {i x : Int} : TS (sA σ 1126 i x) k = TS σ k := TS_out (by decide)
theorem LQ_a126 {σ : rS} {k : Nat} {i x : Int} : LQ (sA σ 1126 i x) k = LQ σ k := LQ_out (by decide)
theorem RG_la126 {σ s : rS} {k : Nat} {c i x : Int} : RG (sA σ 1126 i x) s k c = RG σ s k c := by unfold RG RGf RGp RGw; simp only [rF_sA, tr_out (show 1126 < 2000 ∨ _ from Or.inl (by decide)), zz_out (show 1126 < 2000 ∨ _ from Or.inl (by decide)), A_sA_ne (show (1034 : Nat) ≠ 1126 by decide), A_sA_ne (show (1035 : Nat) ≠ 1126 by decide), A_sA_ne (show (1040 : Nat) ≠ 1126 by decide), ck3_out (show 1126 < 2000 ∨ _ from Or.inl (by decide))]
theorem RG_ra126 {σ s : rS} {k : Nat} {c i x : Int} : RG σ (sA s 1126 i x) k c = RG σ s k c := by unfold RG RGf RGp RGw; simp only [rF_sA, tr_out (show 1126 < 2000 ∨ _ from Or.inl (by decide)), zz_out (show 1126 < 2000 ∨ _ from Or.inl (by decide)), A_sA_ne (show (1034 : Nat) ≠ 1126 by decide), A_sA_ne (show (1035 : Nat) ≠ 1126 by decide), A_sA_ne (show (1040 : Nat) ≠ 1126 by decide), ck3_out (show 1126 < 2000 ∨ _ from Or.inl (by decide))]
theorem tr_a127 {σ : rS} {k : Nat} {i x : Int} : tr (sA σ 1127 i x) k = tr σ k := tr_out (by decide)
theorem TS_a127 {σ : rS} {k : Nat} {i x : Int} : TS (sA σ 1127 i x) k = TS σ k := TS_out (by decide)
theorem LQ_a127 {σ : rS} {k : Nat} {i x : Int} : LQ (sA σ 1127 i x) k = LQ σ k := LQ_out (by decide)
theorem RG_la127 {σ s : rS} {k : Nat} {c i x : Int} : RG (sA σ 1127 i x) s k c = RG σ s k c := by unfold RG RGf RGp RGw; simp only [rF_sA, tr_out (show 1127 < 2000 ∨ _ from Or.inl (by decide)), zz_out (show 1127 < 2000 ∨ _ from Or.inl (by decide)), A_sA_ne (show (1034 : Nat) ≠ 1127 by decide), A_sA_ne (show (1035 : Nat) ≠ 1127 by decide), A_sA_ne (show (1040 : Nat) ≠ 1127 by decide), ck3_out (show 1127 < 2000 ∨ _ from Or.inl (by decide))]
theorem RG_ra127 {σ s : rS} {k : Nat} {c i x : Int} : RG σ (sA s 1127 i x) k c = RG σ s k c := by unfold RG RGf RGp RGw; simp only [rF_sA, tr_out (show 1127 < 2000 ∨ _ from Or.inl (by decide)), zz_out (show 1127 < 2000 ∨ _ from Or.inl (by decide)), A_sA_ne (show (1034 : Nat) ≠ 1127 by decide), A_sA_ne (show (1035 : Nat) ≠ 1127 by decide), A_sA_ne (show (1040 : Nat) ≠ 1127 by decide), ck3_out (show 1127 < 2000 ∨ _ from Or.inl (by decide))]
theorem tr_a128 {σ : rS} {k : Nat} {i x : Int} : tr (sA σ 1128 i x) k = tr σ k := tr_out (by decide)
theorem TS_a128 {σ : rS} {k : Nat} {i x : Int} : TS (sA σ 1128 i x) k = TS σ k := TS_out (by decide)
theorem LQ_a128 {σ : rS} {k : Nat} {i x : Int} : LQ (sA σ 1128 i x) k = LQ σ k := LQ_out (by decide)
theorem RG_la128 {σ s : rS} {k : Nat} {c i x : Int} : RG (sA σ 1128 i x) s k c = RG σ s k c := by unfold RG RGf RGp RGw; simp only [rF_sA, tr_out (show 1128 < 2000 ∨ _ from Or.inl (by decide)), zz_out (show 1128 < 2000 ∨ _ from Or.inl (by decide)), A_sA_ne (show (1034 : Nat) ≠ 1128 by decide), A_sA_ne (show (1035 : Nat) ≠ 1128 by decide), A_sA_ne (show (1040 : Nat) ≠ 1128 by decide), ck3_out (show 1128 < 2000 ∨ _ from Or.inl (by decide))]
theorem RG_ra128 {σ s : rS} {k : Nat} {c i x : Int} : RG σ (sA s 1128 i x) k c = RG σ s k c := by unfold RG RGf RGp RGw; simp only [rF_sA, tr_out (show 1128 < 2000 ∨ _ from Or.inl (by decide)), zz_out (show 1128 < 2000 ∨ _ from Or.inl (by decide)), A_sA_ne (show (1034 : Nat) ≠ 1128 by decide), A_sA_ne (show (1035 : Nat) ≠ 1128 by decide), A_sA_ne (show (1040 : Nat) ≠ 1128 by decide), ck3_out (show 1128 < 2000 ∨ _ from Or.inl (by decide))]
theorem tr_a129 {σ : rS} {k : Nat} {i x : Int} : tr (sA σ 1129 i x) k = tr σ k := tr_out (by decide)
theorem TS_a129 {σ : rS} {k : Nat} {i x : Int} : TS (sA σ 1129 i x) k = TS σ k := TS_out (by decide)
theorem LQ_a129 {σ : rS} {k : Nat} {i x : Int} : LQ (sA σ 1129 i x) k = LQ σ k := LQ_out (by decide)
theorem RG_la129 {σ s : rS} {k : Nat} {c i x : Int} : RG (sA σ 1129 i x) s k c = RG σ s k c := by unfold RG RGf RGp RGw; simp only [rF_sA, tr_out (show 1129 < 2000 ∨ _ from Or.inl (by decide)), zz_out (show 1129 < 2000 ∨ _ from Or.inl (by decide)), A_sA_ne (show (1034 : Nat) ≠ 1129 by decide), A_sA_ne (show (1035 : Nat) ≠ 1129 by decide), A_sA_ne (show (1040 : Nat) ≠ 1129 by decide), ck3_out (show 1129 < 2000 ∨ _ from Or.inl (by decide))]
theorem RG_ra129 {σ s : rS} {k : Nat} {c i x : Int} : RG σ (sA s 1129 i x) k c = RG σ s k c := by unfold RG RGf RGp RGw; simp only [rF_sA, tr_out (show 1129 < 2000 ∨ _ from Or.inl (by decide)), zz_out (show 1129 < 2000 ∨ _ from Or.inl (by decide)), A_sA_ne (show (1034 : Nat) ≠ 1129 by decide), A_sA_ne (show (1035 : Nat) ≠ 1129 by decide), A_sA_ne (show (1040 : Nat) ≠ 1129 by decide), ck3_out (show 1129 < 2000 ∨ _ from Or.inl (by decide))]
theorem tr_a136 {σ : rS} {k : Nat} {i x : Int} : tr (sA σ 1136 i x) k = tr σ k := tr_out (by decide)
theorem TS_a136 {σ : rS} {k : Nat} {i x : Int} : TS (sA σ 1136 i x) k = TS σ k := TS_out (by decide)
theorem LQ_a136 {σ : rS} {k : Nat} {i x : Int} : LQ (sA σ 1136 i x) k = LQ σ k := LQ_out (by decide)
theorem RG_la136 {σ s : rS} {k : Nat} {c i x : Int} : RG (sA σ 1136 i x) s k c = RG σ s k c := by unfold RG RGf RGp RGw; simp only [rF_sA, tr_out (show 1136 < 2000 ∨ _ from Or.inl (by decide)), zz_out (show 1136 < 2000 ∨ _ from Or.inl (by decide)), A_sA_ne (show (1034 : Nat) ≠ 1136 by decide), A_sA_ne (show (1035 : Nat) ≠ 1136 by decide), A_sA_ne (show (1040 : Nat) ≠ 1136 by decide), ck3_out (show 1136 < 2000 ∨ _ from Or.inl (by decide))]
theorem RG_ra136 {σ s : rS} {k : Nat} {c i x : Int} : RG σ (sA s 1136 i x) k c = RG σ s k c := by unfold RG RGf RGp RGw; simp only [rF_sA, tr_out (show 1136 < 2000 ∨ _ from Or.inl (by decide)), zz_out (show 1136 < 2000 ∨ _ from Or.inl (by decide)), A_sA_ne (show (1034 : Nat) ≠ 1136 by decide), A_sA_ne (show (1035 : Nat) ≠ 1136 by decide), A_sA_ne (show (1040 : Nat) ≠ 1136 by decide), ck3_out (show 1136 < 2000 ∨ _ from Or.inl (by decide))]
theorem tr_a138 {σ : rS} {k : Nat} {i x : Int} : tr (sA σ 1138 i x) k = tr σ k := tr_out (by decide)
theorem TS_a138 {σ : rS} {k : Nat} {i x : Int} : TS (sA σ 1138 i x) k = TS σ k := TS_out (by decide)
theorem LQ_a138 {σ : rS} {k : Nat} {i x : Int} : LQ (sA σ 1138 i x) k = LQ σ k := LQ_out (by decide)
theorem RG_la138 {σ s : rS} {k : Nat} {c i x : Int} : RG (sA σ 1138 i x) s k c = RG σ s k c := by unfold RG RGf RGp RGw; simp only [rF_sA, tr_out (show 1138 < 2000 ∨ _ from Or.inl (by decide)), zz_out (show 1138 < 2000 ∨ _ from Or.inl (by decide)), A_sA_ne (show (1034 : Nat) ≠ 1138 by decide), A_sA_ne (show (1035 : Nat) ≠ 1138 by decide), A_sA_ne (show (1040 : Nat) ≠ 1138 by decide), ck3_out (show 1138 < 2000 ∨ _ from Or.inl (by decide))]
theorem RG_ra138 {σ s : rS} {k : Nat} {c i x : Int} : RG σ (sA s 1138 i x) k c = RG σ s k c := by unfold RG RGf RGp RGw; simp only [rF_sA, tr_out (show 1138 < 2000 ∨ _ from Or.inl (by decide)), zz_out (show 1138 < 2000 ∨ _ from Or.inl (by decide)), A_sA_ne (show (1034 : Nat) ≠ 1138 by decide), A_sA_ne (show (1035 : Nat) ≠ 1138 by decide), A_sA_ne (show (1040 : Nat) ≠ 1138 by decide), ck3_out (show 1138 < 2000 ∨ _ from Or.inl (by decide))]
theorem RG.n7 {σ s : rS} {k : Nat} {c x : Int} (hk : rgk k) (h : RG σ s k c) (hx : rF s k 7 ≤ x) : RG σ (sF s k 7 x) k c := by
  have e7 := kq_k hk
  have k0 : (0 : Nat) ≠ k := by rcases hk with rfl | rfl | rfl <;> decide
  obtain ⟨a, ⟨b1, b2, b3, b4, b5, b6⟩, w1, w2, w4, w5⟩ := h
  have hz : zz (sF s k 7 x) k = zz s k := by funext y n; unfold zz; simp only [F_sF_ne (show (38 : Nat) ≠ 7 by decide), rA_sF]
  refine ⟨a, ⟨b1, fun y n hy h => by rw [hz]; exact b2 y n hy h, ?_, ?_, by rw [F_sF_ne (by decide)]; exact b5, b6⟩, ?_, ?_, w4, w5⟩
  · rw [e7] at *; rw [F_sF]; omega
  · rw [F_sF_ne (by decide)]; exact b4
  · rw [F_sF_nq k0]; exact w1
  · rw [F_sF_nq k0]; exact w2
theorem RG.n32 {σ s : rS} {k : Nat} {c x : Int} (hk : rgk k) (h : RG σ s k c) (hx : rF s k 32 ≤ x) : RG σ (sF s k 32 x) k c := by
  have e7 := kq_k hk
  have k0 : (0 : Nat) ≠ k := by rcases hk with rfl | rfl | rfl <;> decide
  obtain ⟨a, ⟨b1, b2, b3, b4, b5, b6⟩, w1, w2, w4, w5⟩ := h
  have hz : zz (sF s k 32 x) k = zz s k := by funext y n; unfold zz; simp only [F_sF_ne (show (38 : Nat) ≠ 32 by decide), rA_sF]
  refine ⟨a, ⟨b1, fun y n hy h => by rw [hz]; exact b2 y n hy h, ?_, ?_, by rw [F_sF_ne (by decide)]; exact b5, b6⟩, ?_, ?_, w4, w5⟩
  · rw [F_sF_ne (by decide)]; exact b3
  · rw [e7] at *; rw [F_sF]; omega
  · rw [F_sF_nq k0]; exact w1
  · rw [F_sF_nq k0]; exact w2
theorem RG.st31 {σ s : rS} {k : Nat} {c i x : Int} (hk : rgk k) (h : RG σ s k c) (hi : rF σ k 32 ≤ i) : RG σ (sA s (1000 * (k + 1) + 31) i x) k c := by
  have e7 := kq_k hk
  have hk1 : 1 ≤ k := by rcases hk with rfl | rfl | rfl <;> decide
  obtain ⟨a, ⟨b1, b2, b3, b4, b5, b6⟩, w1, w2, w4, w5⟩ := h
  have hN : rF σ (kq k) 32 = rF σ k 32 := by rw [e7]
  refine ⟨fun f' i' hf' hi' hc' => ?_, ⟨fun i' hi' => ?_, fun y n hy hz => ?_, b3, b4, b5, fun i hi => (ck3_ne (by rw [e7]; omega)).trans (b6 i hi)⟩, w1, w2, fun j hj => ?_, fun j hj => ?_⟩
  · rw [tr_in hk (Or.inr rfl), udt_ne (by omega)]; exact a f' i' hf' hi' hc'
  · rw [tr_in hk (Or.inr rfl), udt_ne (by omega)]; exact b1 i' hi'
  · rw [zz_out (Or.inr (by omega))]; exact b2 y n hy hz
  · rw [A_sA_ne (by omega), A_sA_ne (by omega)]; exact w4 j hj
  · rw [A_sA_ne (by omega)]; exact w5 j hj
theorem RG.out {σ s : rS} {p k : Nat} {c i x : Int} (hp : 1000 ≤ p ∧ 6 ≤ p % 1000 ∧ p % 1000 ≠ 31 ∧ p % 1000 ≠ 33 ∧ p % 1000 ≠ 34 ∧ p % 1000 ≠ 35 ∧ p % 1000 ≠ 40) : RG σ (sA s p i x) k c = RG σ s k c := by
  unfold RG RGf RGp RGw
  simp only [rF_sA, tr_out (show p < 2000 ∨ _ from Or.inr ⟨hp.2.1, hp.2.2.1⟩), zz_out (show p < 2000 ∨ _ from Or.inr ⟨hp.2.2.2.1, hp.2.2.2.2.1, hp.2.2.2.2.2.1⟩), A_sA_ne (show (1034 : Nat) ≠ p by omega), A_sA_ne (show (1035 : Nat) ≠ p by omega), A_sA_ne (show (1040 : Nat) ≠ p by omega), ck3_out (show p < 2000 ∨ _ from Or.inr ⟨hp.2.2.2.1, hp.2.2.2.2.1, hp.2.2.2.2.2.1⟩)]
theorem RG.outl {σ s : rS} {p k : Nat} {c i x : Int} (hp : 1000 ≤ p ∧ 6 ≤ p % 1000 ∧ p % 1000 ≠ 31 ∧ p % 1000 ≠ 33 ∧ p % 1000 ≠ 34 ∧ p % 1000 ≠ 35 ∧ p % 1000 ≠ 40) : RG (sA σ p i x) s k c = RG σ s k c := by
  unfold RG RGf RGp RGw
  simp only [rF_sA, tr_out (show p < 2000 ∨ _ from Or.inr ⟨hp.2.1, hp.2.2.1⟩), zz_out (show p < 2000 ∨ _ from Or.inr ⟨hp.2.2.2.1, hp.2.2.2.2.1, hp.2.2.2.2.2.1⟩), A_sA_ne (show (1034 : Nat) ≠ p by omega), A_sA_ne (show (1035 : Nat) ≠ p by omega), A_sA_ne (show (1040 : Nat) ≠ p by omega), ck3_out (show p < 2000 ∨ _ from Or.inr ⟨hp.2.2.2.1, hp.2.2.2.2.1, hp.2.2.2.2.2.1⟩)]
theorem zz_F {σ : rS} {q f k : Nat} {x : Int} (hf : (38 : Nat) ≠ f) : zz (sF σ q f x) k = zz σ k := by
  funext s n
  unfold zz
  simp only [F_sF_ne hf, rA_sF]
theorem TS_F {σ : rS} {q f k : Nat} {x : Int} (hf : (38 : Nat) ≠ f) : TS (sF σ q f x) k = TS σ k := by unfold TS; rw [tr_sF, zz_F hf]
theorem LQ_F {σ : rS} {q f k : Nat} {x : Int} (hf : (38 : Nat) ≠ f) : LQ (sF σ q f x) k = LQ σ k := by unfold LQ; simp only [TS_F hf, tr_sF]

theorem tr_g6 {σ : rS} {q k : Nat} {i x : Int} : tr (sA σ (1000 * (q + 1) + 6) i x) k = tr σ k := tr_out (Or.inr (by omega))
theorem TS_g6 {σ : rS} {q k : Nat} {i x : Int} : TS (sA σ (1000 * (q + 1) + 6) i x) k = TS σ k := TS_out (Or.inr (by omega))
theorem LQ_g6 {σ : rS} {q k : Nat} {i x : Int} : LQ (sA σ (1000 * (q + 1) + 6) i x) k = LQ σ k := LQ_out (Or.inr (by omega))
theorem RG_rg6 {σ s : rS} {q k : Nat} {c i x : Int} : RG σ (sA s (1000 * (q + 1) + 6) i x) k c = RG σ s k c := RG.out (by omega)
theorem RG_lg6 {σ s : rS} {q k : Nat} {c i x : Int} : RG (sA σ (1000 * (q + 1) + 6) i x) s k c = RG σ s k c := RG.outl (by omega)
theorem TS_G7 {σ : rS} {q k : Nat} {x : Int} : TS (sF σ q 7 x) k = TS σ k := TS_F (by decide)
theorem LQ_G7 {σ : rS} {q k : Nat} {x : Int} : LQ (sF σ q 7 x) k = LQ σ k := LQ_F (by decide)
theorem tr_g8 {σ : rS} {q k : Nat} {i x : Int} : tr (sA σ (1000 * (q + 1) + 8) i x) k = tr σ k := tr_out (Or.inr (by omega))
theorem TS_g8 {σ : rS} {q k : Nat} {i x : Int} : TS (sA σ (1000 * (q + 1) + 8) i x) k = TS σ k := TS_out (Or.inr (by omega))
theorem LQ_g8 {σ : rS} {q k : Nat} {i x : Int} : LQ (sA σ (1000 * (q + 1) + 8) i x) k = LQ σ k := LQ_out (Or.inr (by omega))
theorem RG_rg8 {σ s : rS} {q k : Nat} {c i x : Int} : RG σ (sA s (1000 * (q + 1) + 8) i x) k c = RG σ s k c := RG.out (by omega)
theorem RG_lg8 {σ s : rS} {q k : Nat} {c i x : Int} : RG (sA σ (1000 * (q + 1) + 8) i x) s k c = RG σ s k c := RG.outl (by omega)
theorem TS_G9 {σ : rS} {q k : Nat} {x : Int} : TS (sF σ q 9 x) k = TS σ k := TS_F (by decide)
theorem LQ_G9 {σ : rS} {q k : Nat} {x : Int} : LQ (sF σ q 9 x) k = LQ σ k := LQ_F (by decide)
theorem RG_lG9 {σ s : rS} {q k : Nat} {c x : Int} : RG (sF σ q 9 x) s k c = RG σ s k c := by unfold RG RGf RGp RGw; simp only [F_sF_ne (show (7 : Nat) ≠ 9 by decide), F_sF_ne (show (32 : Nat) ≠ 9 by decide), F_sF_ne (show (38 : Nat) ≠ 9 by decide), F_sF_ne (show (39 : Nat) ≠ 9 by decide), zz_F (show (38 : Nat) ≠ 9 by decide), tr_sF, rA_sF, ck3_sF]
theorem RG_rG9 {σ s : rS} {q k : Nat} {c x : Int} : RG σ (sF s q 9 x) k c = RG σ s k c := by unfold RG RGf RGp RGw; simp only [F_sF_ne (show (7 : Nat) ≠ 9 by decide), F_sF_ne (show (32 : Nat) ≠ 9 by decide), F_sF_ne (show (38 : Nat) ≠ 9 by decide), F_sF_ne (show (39 : Nat) ≠ 9 by decide), zz_F (show (38 : Nat) ≠ 9 by decide), tr_sF, rA_sF, ck3_sF]
theorem tr_g10 {σ : rS} {q k : Nat} {i x : Int} : tr (sA σ (1000 * (q + 1) + 10) i x) k = tr σ k := tr_out (Or.inr (by omega))
theorem TS_g10 {σ : rS} {q k : Nat} {i x : Int} : TS (sA σ (1000 * (q + 1) + 10) i x) k = TS σ k := TS_out (Or.inr (by omega))
theorem LQ_g10 {σ : rS} {q k : Nat} {i x : Int} : LQ (sA σ (1000 * (q + 1) + 10) i x) k = LQ σ k := LQ_out (Or.inr (by omega))
theorem RG_rg10 {σ s : rS} {q k : Nat} {c i x : Int} : RG σ (sA s (1000 * (q + 1) + 10) i x) k c = RG σ s k c := RG.out (by omega)
theorem RG_lg10 {σ s : rS} {q k : Nat} {c i x : Int} : RG (sA σ (1000 * (q + 1) + 10) i x) s k c = RG σ s k c := RG.outl (by omega)
theorem tr_g11 {σ : rS} {q k : Nat} {i x : Int} : tr (sA σ (1000 * (q + 1) + 11) i x) k = tr σ k := tr_out (Or.inr (by omega))
theorem TS_g11 {σ : rS} {q k : Nat} {i x : Int} : TS (sA σ (1000 * (q + 1) + 11) i x) k = TS σ k := TS_out (Or.inr (by omega))
theorem LQ_g11 {σ : rS} {q k : Nat} {i x : Int} : LQ (sA σ (1000 * (q + 1) + 11) i x) k = LQ σ k := LQ_out (Or.inr (by omega))
theorem RG_rg11 {σ s : rS} {q k : Nat} {c i x : Int} : RG σ (sA s (1000 * (q + 1) + 11) i x) k c = RG σ s k c := RG.out (by omega)
theorem RG_lg11 {σ s : rS} {q k : Nat} {c i x : Int} : RG (sA σ (1000 * (q + 1) + 11) i x) s k c = RG σ s k c := RG.outl (by omega)
theorem TS_G12 {σ : rS} {q k : Nat} {x : Int} : TS (sF σ q 12 x) k = TS σ k := TS_F (by decide)
theorem LQ_G12 {σ : rS} {q k : Nat} {x : Int} : LQ (sF σ q 12 x) k = LQ σ k := LQ_F (by decide)
theorem RG_lG12 {σ s : rS} {q k : Nat} {c x : Int} : RG (sF σ q 12 x) s k c = RG σ s k c := by unfold RG RGf RGp RGw; simp only [F_sF_ne (show (7 : Nat) ≠ 12 by decide), F_sF_ne (show (32 : Nat) ≠ 12 by decide), F_sF_ne (show (38 : Nat) ≠ 12 by decide), F_sF_ne (show (39 : Nat) ≠ 12 by decide), zz_F (show (38 : Nat) ≠ 12 by decide), tr_sF, rA_sF, ck3_sF]
theorem RG_rG12 {σ s : rS} {q k : Nat} {c x : Int} : RG σ (sF s q 12 x) k c = RG σ s k c := by unfold RG RGf RGp RGw; simp only [F_sF_ne (show (7 : Nat) ≠ 12 by decide), F_sF_ne (show (32 : Nat) ≠ 12 by decide), F_sF_ne (show (38 : Nat) ≠ 12 by decide), F_sF_ne (show (39 : Nat) ≠ 12 by decide), zz_F (show (38 : Nat) ≠ 12 by decide), tr_sF, rA_sF, ck3_sF]
theorem TS_G13 {σ : rS} {q k : Nat} {x : Int} : TS (sF σ q 13 x) k = TS σ k := TS_F (by decide)
theorem LQ_G13 {σ : rS} {q k : Nat} {x : Int} : LQ (sF σ q 13 x) k = LQ σ k := LQ_F (by decide)
theorem RG_lG13 {σ s : rS} {q k : Nat} {c x : Int} : RG (sF σ q 13 x) s k c = RG σ s k c := by unfold RG RGf RGp RGw; simp only [F_sF_ne (show (7 : Nat) ≠ 13 by decide), F_sF_ne (show (32 : Nat) ≠ 13 by decide), F_sF_ne (show (38 : Nat) ≠ 13 by decide), F_sF_ne (show (39 : Nat) ≠ 13 by decide), zz_F (show (38 : Nat) ≠ 13 by decide), tr_sF, rA_sF, ck3_sF]
theorem RG_rG13 {σ s : rS} {q k : Nat} {c x : Int} : RG σ (sF s q 13 x) k c = RG σ s k c := by unfold RG RGf RGp RGw; simp only [F_sF_ne (show (7 : Nat) ≠ 13 by decide), F_sF_ne (show (32 : Nat) ≠ 13 by decide), F_sF_ne (show (38 : Nat) ≠ 13 by decide), F_sF_ne (show (39 : Nat) ≠ 13 by decide), zz_F (show (38 : Nat) ≠ 13 by decide), tr_sF, rA_sF, ck3_sF]
theorem TS_G14 {σ : rS} {q k : Nat} {x : Int} : TS (sF σ q 14 x) k = TS σ k := TS_F (by decide)
theorem LQ_G14 {σ : rS} {q k : Nat} {x : Int} : LQ (sF σ q 14 x) k = LQ σ k := LQ_F (by decide)
theorem RG_lG14 {σ s : rS} {q k : Nat} {c x : Int} : RG (sF σ q 14 x) s k c = RG σ s k c := by unfold RG RGf RGp RGw; simp only [F_sF_ne (show (7 : Nat) ≠ 14 by decide), F_sF_ne (show (32 : Nat) ≠ 14 by decide), F_sF_ne (show (38 : Nat) ≠ 14 by decide), F_sF_ne (show (39 : Nat) ≠ 14 by decide), zz_F (show (38 : Nat) ≠ 14 by decide), tr_sF, rA_sF, ck3_sF]
theorem RG_rG14 {σ s : rS} {q k : Nat} {c x : Int} : RG σ (sF s q 14 x) k c = RG σ s k c := by unfold RG RGf RGp RGw; simp only [F_sF_ne (show (7 : Nat) ≠ 14 by decide), F_sF_ne (show (32 : Nat) ≠ 14 by decide), F_sF_ne (show (38 : Nat) ≠ 14 by decide), F_sF_ne (show (39 : Nat) ≠ 14 by decide), zz_F (show (38 : Nat) ≠ 14 by decide), tr_sF, rA_sF, ck3_sF]
theorem tr_g15 {σ : rS} {q k : Nat} {i x : Int} : tr (sA σ (1000 * (q + 1) + 15) i x) k = tr σ k := tr_out (Or.inr (by omega))
theorem TS_g15 {σ : rS} {q k : Nat} {i x : Int} : TS (sA σ (1000 * (q + 1) + 15) i x) k = TS σ k := TS_out (Or.inr (by omega))
theorem LQ_g15 {σ : rS} {q k : Nat} {i x : Int} : LQ (sA σ (1000 * (q + 1) + 15) i x) k = LQ σ k := LQ_out (Or.inr (by omega))
theorem RG_rg15 {σ s : rS} {q k : Nat} {c i x : Int} : RG σ (sA s (1000 * (q + 1) + 15) i x) k c = RG σ s k c := RG.out (by omega)
theorem RG_lg15 {σ s : rS} {q k : Nat} {c i x : Int} : RG (sA σ (1000 * (q + 1) + 15) i x) s k c = RG σ s k c := RG.outl (by omega)
theorem tr_g16 {σ : rS} {q k : Nat} {i x : Int} : tr (sA σ (1000 * (q + 1) + 16) i x) k = tr σ k := tr_out (Or.inr (by omega))
theorem TS_g16 {σ : rS} {q k : Nat} {i x : Int} : TS (sA σ (1000 * (q + 1) + 16) i x) k = TS σ k := TS_out (Or.inr (by omega))
theorem LQ_g16 {σ : rS} {q k : Nat} {i x : Int} : LQ (sA σ (1000 * (q + 1) + 16) i x) k = LQ σ k := LQ_out (Or.inr (by omega))
theorem RG_rg16 {σ s : rS} {q k : Nat} {c i x : Int} : RG σ (sA s (1000 * (q + 1) + 16) i x) k c = RG σ s k c := RG.out (by omega)
theorem RG_lg16 {σ s : rS} {q k : Nat} {c i x : Int} : RG (sA σ (1000 * (q + 1) + 16) i x) s k c = RG σ s k c := RG.outl (by omega)
theorem tr_g17 {σ : rS} {q k : Nat} {i x : Int} : tr (sA σ (1000 * (q + 1) + 17) i x) k = tr σ k := tr_out (Or.inr (by omega))
theorem TS_g17 {σ : rS} {q k : Nat} {i x : Int} : TS (sA σ (1000 * (q + 1) + 17) i x) k = TS σ k := TS_out (Or.inr (by omega))
theorem LQ_g17 {σ : rS} {q k : Nat} {i x : Int} : LQ (sA σ (1000 * (q + 1) + 17) i x) k = LQ σ k := LQ_out (Or.inr (by omega))
theorem RG_rg17 {σ s : rS} {q k : Nat} {c i x : Int} : RG σ (sA s (1000 * (q + 1) + 17) i x) k c = RG σ s k c := RG.out (by omega)
theorem RG_lg17 {σ s : rS} {q k : Nat} {c i x : Int} : RG (sA σ (1000 * (q + 1) + 17) i x) s k c = RG σ s k c := RG.outl (by omega)
theorem tr_g18 {σ : rS} {q k : Nat} {i x : Int} : tr (sA σ (1000 * (q + 1) + 18) i x) k = tr σ k := tr_out (Or.inr (by omega))
theorem TS_g18 {σ : rS} {q k : Nat} {i x : Int} : TS (sA σ (1000 * (q + 1) + 18) i x) k = TS σ k := TS_out (Or.inr (by omega))
theorem LQ_g18 {σ : rS} {q k : Nat} {i x : Int} : LQ (sA σ (1000 * (q + 1) + 18) i x) k = LQ σ k := LQ_out (Or.inr (by omega))
theorem RG_rg18 {σ s : rS} {q k : Nat} {c i x : Int} : RG σ (sA s (1000 * (q + 1) + 18) i x) k c = RG σ s k c := RG.out (by omega)
theorem RG_lg18 {σ s : rS} {q k : Nat} {c i x : Int} : RG (sA σ (1000 * (q + 1) + 18) i x) s k c = RG σ s k c := RG.outl (by omega)
theorem tr_g19 {σ : rS} {q k : Nat} {i x : Int} : tr (sA σ (1000 * (q + 1) + 19) i x) k = tr σ k := tr_out (Or.inr (by omega))
theorem TS_g19 {σ : rS} {q k : Nat} {i x : Int} : TS (sA σ (1000 * (q + 1) + 19) i x) k = TS σ k := TS_out (Or.inr (by omega))
theorem LQ_g19 {σ : rS} {q k : Nat} {i x : Int} : LQ (sA σ (1000 * (q + 1) + 19) i x) k = LQ σ k := LQ_out (Or.inr (by omega))
theorem RG_rg19 {σ s : rS} {q k : Nat} {c i x : Int} : RG σ (sA s (1000 * (q + 1) + 19) i x) k c = RG σ s k c := RG.out (by omega)
theorem RG_lg19 {σ s : rS} {q k : Nat} {c i x : Int} : RG (sA σ (1000 * (q + 1) + 19) i x) s k c = RG σ s k c := RG.outl (by omega)
theorem tr_g20 {σ : rS} {q k : Nat} {i x : Int} : tr (sA σ (1000 * (q + 1) + 20) i x) k = tr σ k := tr_out (Or.inr (by omega))
theorem TS_g20 {σ : rS} {q k : Nat} {i x : Int} : TS (sA σ (1000 * (q + 1) + 20) i x) k = TS σ k := TS_out (Or.inr (by omega))
theorem LQ_g20 {σ : rS} {q k : Nat} {i x : Int} : LQ (sA σ (1000 * (q + 1) + 20) i x) k = LQ σ k := LQ_out (Or.inr (by omega))
theorem RG_rg20 {σ s : rS} {q k : Nat} {c i x : Int} : RG σ (sA s (1000 * (q + 1) + 20) i x) k c = RG σ s k c := RG.out (by omega)
theorem RG_lg20 {σ s : rS} {q k : Nat} {c i x : Int} : RG (sA σ (1000 * (q + 1) + 20) i x) s k c = RG σ s k c := RG.outl (by omega)
theorem tr_g21 {σ : rS} {q k : Nat} {i x : Int} : tr (sA σ (1000 * (q + 1) + 21) i x) k = tr σ k := tr_out (Or.inr (by omega))
theorem TS_g21 {σ : rS} {q k : Nat} {i x : Int} : TS (sA σ (1000 * (q + 1) + 21) i x) k = TS σ k := TS_out (Or.inr (by omega))
theorem LQ_g21 {σ : rS} {q k : Nat} {i x : Int} : LQ (sA σ (1000 * (q + 1) + 21) i x) k = LQ σ k := LQ_out (Or.inr (by omega))
theorem RG_rg21 {σ s : rS} {q k : Nat} {c i x : Int} : RG σ (sA s (1000 * (q + 1) + 21) i x) k c = RG σ s k c := RG.out (by omega)
theorem RG_lg21 {σ s : rS} {q k : Nat} {c i x : Int} : RG (sA σ (1000 * (q + 1) + 21) i x) s k c = RG σ s k c := RG.outl (by omega)
theorem tr_g22 {σ : rS} {q k : Nat} {i x : Int} : tr (sA σ (1000 * (q + 1) + 22) i x) k = tr σ k := tr_out (Or.inr (by omega))
theorem TS_g22 {σ : rS} {q k : Nat} {i x : Int} : TS (sA σ (1000 * (q + 1) + 22) i x) k = TS σ k := TS_out (Or.inr (by omega))
theorem LQ_g22 {σ : rS} {q k : Nat} {i x : Int} : LQ (sA σ (1000 * (q + 1) + 22) i x) k = LQ σ k := LQ_out (Or.inr (by omega))
theorem RG_rg22 {σ s : rS} {q k : Nat} {c i x : Int} : RG σ (sA s (1000 * (q + 1) + 22) i x) k c = RG σ s k c := RG.out (by omega)
theorem RG_lg22 {σ s : rS} {q k : Nat} {c i x : Int} : RG (sA σ (1000 * (q + 1) + 22) i x) s k c = RG σ s k c := RG.outl (by omega)
theorem tr_g23 {σ : rS} {q k : Nat} {i x : Int} : tr (sA σ (1000 * (q + 1) + 23) i x) k = tr σ k := tr_out (Or.inr (by omega))
theorem TS_g23 {σ : rS} {q k : Nat} {i x : Int} : TS (sA σ (1000 * (q + 1) + 23) i x) k = TS σ k := TS_out (Or.inr (by omega))
theorem LQ_g23 {σ : rS} {q k : Nat} {i x : Int} : LQ (sA σ (1000 * (q + 1) + 23) i x) k = LQ σ k := LQ_out (Or.inr (by omega))
theorem RG_rg23 {σ s : rS} {q k : Nat} {c i x : Int} : RG σ (sA s (1000 * (q + 1) + 23) i x) k c = RG σ s k c := RG.out (by omega)
theorem RG_lg23 {σ s : rS} {q k : Nat} {c i x : Int} : RG (sA σ (1000 * (q + 1) + 23) i x) s k c = RG σ s k c := RG.outl (by omega)
theorem tr_g24 {σ : rS} {q k : Nat} {i x : Int} : tr (sA σ (1000 * (q + 1) + 24) i x) k = tr σ k := tr_out (Or.inr (by omega))
theorem TS_g24 {σ : rS} {q k : Nat} {i x : Int} : TS (sA σ (1000 * (q + 1) + 24) i x) k = TS σ k := TS_out (Or.inr (by omega))
theorem LQ_g24 {σ : rS} {q k : Nat} {i x : Int} : LQ (sA σ (1000 * (q + 1) + 24) i x) k = LQ σ k := LQ_out (Or.inr (by omega))
theorem RG_rg24 {σ s : rS} {q k : Nat} {c i x : Int} : RG σ (sA s (1000 * (q + 1) + 24) i x) k c = RG σ s k c := RG.out (by omega)
theorem RG_lg24 {σ s : rS} {q k : Nat} {c i x : Int} : RG (sA σ (1000 * (q + 1) + 24) i x) s k c = RG σ s k c := RG.outl (by omega)
theorem tr_g25 {σ : rS} {q k : Nat} {i x : Int} : tr (sA σ (1000 * (q + 1) + 25) i x) k = tr σ k := tr_out (Or.inr (by omega))
theorem TS_g25 {σ : rS} {q k : Nat} {i x : Int} : TS (sA σ (1000 * (q + 1) + 25) i x) k = TS σ k := TS_out (Or.inr (by omega))
theorem LQ_g25 {σ : rS} {q k : Nat} {i x : Int} : LQ (sA σ (1000 * (q + 1) + 25) i x) k = LQ σ k := LQ_out (Or.inr (by omega))
theorem RG_rg25 {σ s : rS} {q k : Nat} {c i x : Int} : RG σ (sA s (1000 * (q + 1) + 25) i x) k c = RG σ s k c := RG.out (by omega)
theorem RG_lg25 {σ s : rS} {q k : Nat} {c i x : Int} : RG (sA σ (1000 * (q + 1) + 25) i x) s k c = RG σ s k c := RG.outl (by omega)
theorem tr_g26 {σ : rS} {q k : Nat} {i x : Int} : tr (sA σ (1000 * (q + 1) + 26) i x) k = tr σ k := tr_out (Or.inr (by omega))
theorem TS_g26 {σ : rS} {q k : Nat} {i x : Int} : TS (sA σ (1000 * (q + 1) + 26) i x) k = TS σ k := TS_out (Or.inr (by omega))
theorem LQ_g26 {σ : rS} {q k : Nat} {i x : Int} : LQ (sA σ (1000 * (q + 1) + 26) i x) k = LQ σ k := LQ_out (Or.inr (by omega))
theorem RG_rg26 {σ s : rS} {q k : Nat} {c i x : Int} : RG σ (sA s (1000 * (q + 1) + 26) i x) k c = RG σ s k c := RG.out (by omega)
theorem RG_lg26 {σ s : rS} {q k : Nat} {c i x : Int} : RG (sA σ (1000 * (q + 1) + 26) i x) s k c = RG σ s k c := RG.outl (by omega)
theorem tr_g27 {σ : rS} {q k : Nat} {i x : Int} : tr (sA σ (1000 * (q + 1) + 27) i x) k = tr σ k := tr_out (Or.inr (by omega))
theorem TS_g27 {σ : rS} {q k : Nat} {i x : Int} : TS (sA σ (1000 * (q + 1) + 27) i x) k = TS σ k := TS_out (Or.inr (by omega))
theorem LQ_g27 {σ : rS} {q k : Nat} {i x : Int} : LQ (sA σ (1000 * (q + 1) + 27) i x) k = LQ σ k := LQ_out (Or.inr (by omega))
theorem RG_rg27 {σ s : rS} {q k : Nat} {c i x : Int} : RG σ (sA s (1000 * (q + 1) + 27) i x) k c = RG σ s k c := RG.out (by omega)
theorem RG_lg27 {σ s : rS} {q k : Nat} {c i x : Int} : RG (sA σ (1000 * (q + 1) + 27) i x) s k c = RG σ s k c := RG.outl (by omega)
theorem TS_G28 {σ : rS} {q k : Nat} {x : Int} : TS (sF σ q 28 x) k = TS σ k := TS_F (by decide)
theorem LQ_G28 {σ : rS} {q k : Nat} {x : Int} : LQ (sF σ q 28 x) k = LQ σ k := LQ_F (by decide)
theorem RG_lG28 {σ s : rS} {q k : Nat} {c x : Int} : RG (sF σ q 28 x) s k c = RG σ s k c := by unfold RG RGf RGp RGw; simp only [F_sF_ne (show (7 : Nat) ≠ 28 by decide), F_sF_ne (show (32 : Nat) ≠ 28 by decide), F_sF_ne (show (38 : Nat) ≠ 28 by decide), F_sF_ne (show (39 : Nat) ≠ 28 by decide), zz_F (show (38 : Nat) ≠ 28 by decide), tr_sF, rA_sF, ck3_sF]
theorem RG_rG28 {σ s : rS} {q k : Nat} {c x : Int} : RG σ (sF s q 28 x) k c = RG σ s k c := by unfold RG RGf RGp RGw; simp only [F_sF_ne (show (7 : Nat) ≠ 28 by decide), F_sF_ne (show (32 : Nat) ≠ 28 by decide), F_sF_ne (show (38 : Nat) ≠ 28 by decide), F_sF_ne (show (39 : Nat) ≠ 28 by decide), zz_F (show (38 : Nat) ≠ 28 by decide), tr_sF, rA_sF, ck3_sF]
theorem tr_g29 {σ : rS} {q k : Nat} {i x : Int} : tr (sA σ (1000 * (q + 1) + 29) i x) k = tr σ k := tr_out (Or.inr (by omega))
theorem TS_g29 {σ : rS} {q k : Nat} {i x : Int} : TS (sA σ (1000 * (q + 1) + 29) i x) k = TS σ k := TS_out (Or.inr (by omega))
theorem LQ_g29 {σ : rS} {q k : Nat} {i x : Int} : LQ (sA σ (1000 * (q + 1) + 29) i x) k = LQ σ k := LQ_out (Or.inr (by omega))
theorem RG_rg29 {σ s : rS} {q k : Nat} {c i x : Int} : RG σ (sA s (1000 * (q + 1) + 29) i x) k c = RG σ s k c := RG.out (by omega)
theorem RG_lg29 {σ s : rS} {q k : Nat} {c i x : Int} : RG (sA σ (1000 * (q + 1) + 29) i x) s k c = RG σ s k c := RG.outl (by omega)
theorem tr_g30 {σ : rS} {q k : Nat} {i x : Int} : tr (sA σ (1000 * (q + 1) + 30) i x) k = tr σ k := tr_out (Or.inr (by omega))
theorem TS_g30 {σ : rS} {q k : Nat} {i x : Int} : TS (sA σ (1000 * (q + 1) + 30) i x) k = TS σ k := TS_out (Or.inr (by omega))
theorem LQ_g30 {σ : rS} {q k : Nat} {i x : Int} : LQ (sA σ (1000 * (q + 1) + 30) i x) k = LQ σ k := LQ_out (Or.inr (by omega))
theorem RG_rg30 {σ s : rS} {q k : Nat} {c i x : Int} : RG σ (sA s (1000 * (q + 1) + 30) i x) k c = RG σ s k c := RG.out (by omega)
theorem RG_lg30 {σ s : rS} {q k : Nat} {c i x : Int} : RG (sA σ (1000 * (q + 1) + 30) i x) s k c = RG σ s k c := RG.outl (by omega)
theorem TS_G32 {σ : rS} {q k : Nat} {x : Int} : TS (sF σ q 32 x) k = TS σ k := TS_F (by decide)
theorem LQ_G32 {σ : rS} {q k : Nat} {x : Int} : LQ (sF σ q 32 x) k = LQ σ k := LQ_F (by decide)
theorem tr_g33 {σ : rS} {q k : Nat} {i x : Int} : tr (sA σ (1000 * (q + 1) + 33) i x) k = tr σ k := tr_out (Or.inr (by omega))
theorem tr_g34 {σ : rS} {q k : Nat} {i x : Int} : tr (sA σ (1000 * (q + 1) + 34) i x) k = tr σ k := tr_out (Or.inr (by omega))
theorem tr_g35 {σ : rS} {q k : Nat} {i x : Int} : tr (sA σ (1000 * (q + 1) + 35) i x) k = tr σ k := tr_out (Or.inr (by omega))
theorem tr_g36 {σ : rS} {q k : Nat} {i x : Int} : tr (sA σ (1000 * (q + 1) + 36) i x) k = tr σ k := tr_out (Or.inr (by omega))
theorem TS_g36 {σ : rS} {q k : Nat} {i x : Int} : TS (sA σ (1000 * (q + 1) + 36) i x) k = TS σ k := TS_out (Or.inr (by omega))
theorem LQ_g36 {σ : rS} {q k : Nat} {i x : Int} : LQ (sA σ (1000 * (q + 1) + 36) i x) k = LQ σ k := LQ_out (Or.inr (by omega))
theorem RG_rg36 {σ s : rS} {q k : Nat} {c i x : Int} : RG σ (sA s (1000 * (q + 1) + 36) i x) k c = RG σ s k c := RG.out (by omega)
theorem RG_lg36 {σ s : rS} {q k : Nat} {c i x : Int} : RG (sA σ (1000 * (q + 1) + 36) i x) s k c = RG σ s k c := RG.outl (by omega)
theorem tr_g37 {σ : rS} {q k : Nat} {i x : Int} : tr (sA σ (1000 * (q + 1) + 37) i x) k = tr σ k := tr_out (Or.inr (by omega))
theorem TS_g37 {σ : rS} {q k : Nat} {i x : Int} : TS (sA σ (1000 * (q + 1) + 37) i x) k = TS σ k := TS_out (Or.inr (by omega))
theorem LQ_g37 {σ : rS} {q k : Nat} {i x : Int} : LQ (sA σ (1000 * (q + 1) + 37) i x) k = LQ σ k := LQ_out (Or.inr (by omega))
theorem RG_rg37 {σ s : rS} {q k : Nat} {c i x : Int} : RG σ (sA s (1000 * (q + 1) + 37) i x) k c = RG σ s k c := RG.out (by omega)
theorem RG_lg37 {σ s : rS} {q k : Nat} {c i x : Int} : RG (sA σ (1000 * (q + 1) + 37) i x) s k c = RG σ s k c := RG.outl (by omega)
theorem RG.trk {σ s t : rS} {k : Nat} {c c' : Int} (hk : rgk k) (h : RG σ s k c) (h' : RG s t k c') (hc : c' = c ∨ c' = 0 ∨ rF σ k 7 ≤ c') : RG σ t k c := h.trans h' (by rw [kq_k hk]; exact hc)
theorem RG.strk {σ s t : rS} {k f : Nat} {c c' i x : Int} (hk : rgk k) (h : RG σ s k c) (h' : RG (sA s (1000 * (k + 1) + f) i x) t k c') (hf : f < 6) (hi : rF σ k 7 ≤ i ∨ i = c ∧ c ≠ 0 ∧ (f = 2 ∨ f = 3)) (hc : c' = c ∨ c' = 0 ∨ rF σ k 7 ≤ c') : RG σ t k c := (h.st hk hf hi).trk hk h' hc
theorem RG.chk {σ : rS} {k : Nat} {c0 c a b o p f : Int} (hk : rgk k) (hc : c = rF σ k 38) : RG σ (sF (sA (sA (sA (sA (sA σ (1000 * (k + 1) + 33) c a) (1000 * (k + 1) + 34) c b) (1000 * (k + 1) + 35) c o) (1000 * (k + 1) + 36) c p) (1000 * (k + 1) + 37) c f) k 38 (c + 1)) k c0 := by
  have e7 := kq_k hk
  have k0 : (0 : Nat) ≠ k := by rcases hk with rfl | rfl | rfl <;> decide
  refine ⟨fun f' i' _ _ _ => ?_, ⟨fun i' _ => ?_, fun y n hy hz => ?_, ?_, ?_, by rw [e7, F_sF]; omega, fun i hi => by
    rw [e7] at *
    unfold ck3
    have hic : i ≠ c := by omega
    simp only [rA_sF, rA_sA, hic, and_false, if_false]⟩, ?_, ?_, fun j hj => ?_, fun j hj => ?_⟩
  · rw [tr_sF, tr_g37, tr_g36, tr_g35, tr_g34, tr_g33]
  · rw [tr_sF, tr_g37, tr_g36, tr_g35, tr_g34, tr_g33]
  · obtain ⟨j, z1, z2, z3, z4, z5⟩ := hz
    rw [e7] at z2 z3 z4 z5
    refine ⟨j, z1, ?_, ?_, ?_, ?_⟩ <;> rw [e7]
    · rw [F_sF]; omega
    · rw [rA_sF, A_sA_ne (by omega), A_sA_ne (by omega), A_sA_ne (by omega), A_sA_ne (by omega), A_sA_ni (by omega)]; exact z3
    · rw [rA_sF, A_sA_ne (by omega), A_sA_ne (by omega), A_sA_ne (by omega), A_sA_ni (by omega), A_sA_ne (by omega)]; exact z4
    · rw [rA_sF, A_sA_ne (by omega), A_sA_ne (by omega), A_sA_ni (by omega), A_sA_ne (by omega), A_sA_ne (by omega)]; exact z5
  · rw [F_sF_ne (by decide)]; simp only [rF_sA]; omega
  · rw [F_sF_ne (by decide)]; simp only [rF_sA]; omega
  · rw [F_sF_nq k0]; simp only [rF_sA]; omega
  · rw [F_sF_nq k0]; simp only [rF_sA]; omega
  · have hk1 : 1 ≤ k := by rcases hk with rfl | rfl | rfl <;> decide
    simp only [rA_sF, A_sA_ne (show 1034 ≠ 1000 * (k + 1) + 33 by omega), A_sA_ne (show 1034 ≠ 1000 * (k + 1) + 34 by omega), A_sA_ne (show 1034 ≠ 1000 * (k + 1) + 35 by omega), A_sA_ne (show 1034 ≠ 1000 * (k + 1) + 36 by omega), A_sA_ne (show 1034 ≠ 1000 * (k + 1) + 37 by omega), A_sA_ne (show 1035 ≠ 1000 * (k + 1) + 33 by omega), A_sA_ne (show 1035 ≠ 1000 * (k + 1) + 34 by omega), A_sA_ne (show 1035 ≠ 1000 * (k + 1) + 35 by omega), A_sA_ne (show 1035 ≠ 1000 * (k + 1) + 36 by omega), A_sA_ne (show 1035 ≠ 1000 * (k + 1) + 37 by omega), and_self]
  · have hk1 : 1 ≤ k := by rcases hk with rfl | rfl | rfl <;> decide
    simp only [rA_sF, A_sA_ne (show 1040 ≠ 1000 * (k + 1) + 33 by omega), A_sA_ne (show 1040 ≠ 1000 * (k + 1) + 34 by omega), A_sA_ne (show 1040 ≠ 1000 * (k + 1) + 35 by omega), A_sA_ne (show 1040 ≠ 1000 * (k + 1) + 36 by omega), A_sA_ne (show 1040 ≠ 1000 * (k + 1) + 37 by omega)]
theorem RG.note {σ : rS} {k : Nat} {c0 w a b c d : Int} (hw : w = rF σ 0 38) : RG σ (sF (sA (sA (sA (sA σ 1034 w a) 1035 w b) 1036 w c) 1037 w d) 0 38 (w + 1)) k c0 := by
  refine ⟨fun f' i' _ _ _ => ?_, ⟨fun i' _ => ?_, fun y n hy hz => ?_, ?_, ?_, by rw [F_sF_nq kq_0]; simp only [rF_sA]; omega, fun i hi => by rw [ck3_sF, ck3_out (Or.inl (by decide)), ck3_out (Or.inl (by decide)), ck3_out (Or.inl (by decide)), ck3_out (Or.inl (by decide))]⟩, ?_, ?_, fun j hj => ⟨?_, ?_⟩, fun j hj => ?_⟩
  · rw [tr_sF, tr_a37, tr_a36, tr_a35, tr_a34]
  · rw [tr_sF, tr_a37, tr_a36, tr_a35, tr_a34]
  · rw [zz_sF, zz_out (Or.inl (by decide)), zz_out (Or.inl (by decide)), zz_out (Or.inl (by decide)), zz_out (Or.inl (by decide))]; exact hz
  · rw [F_sF_nq kq_0]; simp only [rF_sA]; omega
  · rw [F_sF_nq kq_0]; simp only [rF_sA]; omega
  · rw [F_sF]; omega
  · rw [F_sF_ne (by decide)]; simp only [rF_sA]; omega
  · rw [rA_sF, A_sA_ne (by decide), A_sA_ne (by decide), A_sA_ne (by decide), A_sA_ni (by omega)]
  · rw [rA_sF, A_sA_ne (by decide), A_sA_ne (by decide), A_sA_ni (by omega), A_sA_ne (by decide)]
  · rw [rA_sF, A_sA_ne (by decide), A_sA_ne (by decide), A_sA_ne (by decide), A_sA_ne (by decide)]

/-- a store into the tree -/
def sT (σ : rS) (k f : Nat) (i x : Int) : rS := sA σ (1000 * (k + 1) + f) i x
theorem rF_sT {σ : rS} {k f q f' : Nat} {i x : Int} : rF (sT σ k f i x) q f' = rF σ q f' := rfl
theorem rR_sT {σ : rS} {k f j : Nat} {i x : Int} : rR (sT σ k f i x) j = rR σ j := rfl
theorem rL_sT {σ : rS} {k f p : Nat} {i x j : Int} : rL (sT σ k f i x) p j = rL σ p j := rfl
theorem rA_sT {σ : rS} {k f p : Nat} {i x j : Int} : rA (sT σ k f i x) p j = if p = 1000 * (k + 1) + f ∧ j = i then x else rA σ p j := rfl
theorem sT_sF {σ : rS} {k f q f' : Nat} {i x v : Int} : sT (sF σ q f' v) k f i x = sF (sT σ k f i x) q f' v := rfl
theorem sT_sR {σ : rS} {k f q v : Nat} {i x : Int} : sT (sR σ q v) k f i x = sR (sT σ k f i x) q v := rfl
theorem tr_sT {σ : rS} {k f f' : Nat} {i x j : Int} (hk : rgk k) (hf : f < 6) : tr (sT σ k f i x) k f' j = if f' = f ∧ j = i then x else tr σ k f' j := by
  show tr (sA σ (1000 * (k + 1) + f) i x) k f' j = _
  rw [tr_in hk (Or.inl hf)]; rfl
theorem zz_sT {σ : rS} {k f k' : Nat} {i x : Int} (hf : f < 6) : zz (sT σ k f i x) k' = zz σ k' := zz_out (Or.inr (by omega))
theorem TS.tst {σ : rS} {k S f : Nat} {x y d w lo hi p q u v i z : Int} (hk : rgk k) (hf : f < 6) (h : TS σ k S x y d w lo hi p q u v) (hi1 : i < lo ∨ hi ≤ i) (hi2 : i < p ∨ q ≤ i) : TS (sT σ k f i z) k S x y d w lo hi p q u v := h.st hk hf hi1 hi2
theorem TS.tst5 {σ : rS} {k S : Nat} {x d w lo hi p q u v z : Int} (hk : rgk k) (hS : S < 100) (h : TS σ k S x 0 d w lo hi p q u v) : TS (sT σ k 5 x z) k S x 0 d w lo hi p q u v := h.st5 hk hS
theorem LQ.tst {σ : rS} {k S f : Nat} {h l d w lo hi u v i z : Int} (hk : rgk k) (hf : f < 6) (q : LQ σ k S h l d w lo hi u v) (h1 : i < lo ∨ hi ≤ i) (hi0 : 0 < i) : LQ (sT σ k f i z) k S h l d w lo hi u v := q.st hk hf h1 (by omega) (by omega)
theorem LQ.pushT0 {σ : rS} {k S f : Nat} {h x d w w2 lo m hi u a v i : Int} (hk : rgk k) (hS : S < 100) (hf : f < 6) (q : LQ σ k S h 0 d w lo m u a) (e : TS σ k S x 0 d w2 m hi 0 0 a v) (h5 : tr σ k 5 x = 0) (hx : m ≤ x ∧ x < hi ∧ x ≠ 0) (h1 : i < lo ∨ hi ≤ i) (hi0 : 0 < i) : LQ (sT σ k f i x) k S x x d (w + w2) lo hi u v := q.push0 hk hS hf e h5 hx h1 hi0 rfl
theorem LQ.pushT1 {σ : rS} {k S : Nat} {h l x d w w2 lo m hi u a v : Int} (hk : rgk k) (hS : S < 100) (q : LQ σ k S h l d w lo m u a) (hl : l ≠ 0) (e : TS σ k S x 0 d w2 m hi 0 0 a v) (h5 : tr σ k 5 x = 0) (hx : m ≤ x ∧ x < hi ∧ x ≠ 0) (hlo : 0 < lo) : LQ (sT σ k 5 l x) k S h x d (w + w2) lo hi u v := q.push1 hk hS hl e h5 hx hlo rfl
theorem RG.tst {σ s : rS} {k f : Nat} {c i x : Int} (hk : rgk k) (h : RG σ s k c) (hf : f < 6) (hi : rF σ k 7 ≤ i ∨ i = c ∧ c ≠ 0 ∧ (f = 2 ∨ f = 3)) : RG σ (sT s k f i x) k c := h.st hk hf hi

theorem sT_sA1 {σ : rS} {k f : Nat} {i x j v : Int} (hk : rgk k) : sT (sA σ 1001 j v) k f i x = sA (sT σ k f i x) 1001 j v := by
  have h1 : 1 ≤ k := by rcases hk with rfl | rfl | rfl <;> decide
  unfold sT sA; refine Prod.ext rfl (Prod.ext ?_ rfl); funext a b
  show (if a = 1000 * (k + 1) + f ∧ b = i then x else if a = 1001 ∧ b = j then v else σ.2.1 a b) = (if a = 1001 ∧ b = j then v else if a = 1000 * (k + 1) + f ∧ b = i then x else σ.2.1 a b)
  by_cases e : a = 1001 ∧ b = j
  · rw [if_neg (by omega), if_pos e, if_pos e]
  · rw [if_neg e, if_neg e]
theorem sT_sA2 {σ : rS} {k f : Nat} {i x j v : Int} (hk : rgk k) : sT (sA σ 1002 j v) k f i x = sA (sT σ k f i x) 1002 j v := by
  have h1 : 1 ≤ k := by rcases hk with rfl | rfl | rfl <;> decide
  unfold sT sA; refine Prod.ext rfl (Prod.ext ?_ rfl); funext a b
  show (if a = 1000 * (k + 1) + f ∧ b = i then x else if a = 1002 ∧ b = j then v else σ.2.1 a b) = (if a = 1002 ∧ b = j then v else if a = 1000 * (k + 1) + f ∧ b = i then x else σ.2.1 a b)
  by_cases e : a = 1002 ∧ b = j
  · rw [if_neg (by omega), if_pos e, if_pos e]
  · rw [if_neg e, if_neg e]
theorem sT_sA5 {σ : rS} {k f : Nat} {i x j v : Int} (hk : rgk k) : sT (sA σ 1005 j v) k f i x = sA (sT σ k f i x) 1005 j v := by
  have h1 : 1 ≤ k := by rcases hk with rfl | rfl | rfl <;> decide
  unfold sT sA; refine Prod.ext rfl (Prod.ext ?_ rfl); funext a b
  show (if a = 1000 * (k + 1) + f ∧ b = i then x else if a = 1005 ∧ b = j then v else σ.2.1 a b) = (if a = 1005 ∧ b = j then v else if a = 1000 * (k + 1) + f ∧ b = i then x else σ.2.1 a b)
  by_cases e : a = 1005 ∧ b = j
  · rw [if_neg (by omega), if_pos e, if_pos e]
  · rw [if_neg e, if_neg e]
theorem sT_sA20 {σ : rS} {k f : Nat} {i x j v : Int} (hk : rgk k) : sT (sA σ 1020 j v) k f i x = sA (sT σ k f i x) 1020 j v := by
  have h1 : 1 ≤ k := by rcases hk with rfl | rfl | rfl <;> decide
  unfold sT sA; refine Prod.ext rfl (Prod.ext ?_ rfl); funext a b
  show (if a = 1000 * (k + 1) + f ∧ b = i then x else if a = 1020 ∧ b = j then v else σ.2.1 a b) = (if a = 1020 ∧ b = j then v else if a = 1000 * (k + 1) + f ∧ b = i then x else σ.2.1 a b)
  by_cases e : a = 1020 ∧ b = j
  · rw [if_neg (by omega), if_pos e, if_pos e]
  · rw [if_neg e, if_neg e]
theorem sT_sA26 {σ : rS} {k f : Nat} {i x j v : Int} (hk : rgk k) : sT (sA σ 1026 j v) k f i x = sA (sT σ k f i x) 1026 j v := by
  have h1 : 1 ≤ k := by rcases hk with rfl | rfl | rfl <;> decide
  unfold sT sA; refine Prod.ext rfl (Prod.ext ?_ rfl); funext a b
  show (if a = 1000 * (k + 1) + f ∧ b = i then x else if a = 1026 ∧ b = j then v else σ.2.1 a b) = (if a = 1026 ∧ b = j then v else if a = 1000 * (k + 1) + f ∧ b = i then x else σ.2.1 a b)
  by_cases e : a = 1026 ∧ b = j
  · rw [if_neg (by omega), if_pos e, if_pos e]
  · rw [if_neg e, if_neg e]
theorem sT_sA27 {σ : rS} {k f : Nat} {i x j v : Int} (hk : rgk k) : sT (sA σ 1027 j v) k f i x = sA (sT σ k f i x) 1027 j v := by
  have h1 : 1 ≤ k := by rcases hk with rfl | rfl | rfl <;> decide
  unfold sT sA; refine Prod.ext rfl (Prod.ext ?_ rfl); funext a b
  show (if a = 1000 * (k + 1) + f ∧ b = i then x else if a = 1027 ∧ b = j then v else σ.2.1 a b) = (if a = 1027 ∧ b = j then v else if a = 1000 * (k + 1) + f ∧ b = i then x else σ.2.1 a b)
  by_cases e : a = 1027 ∧ b = j
  · rw [if_neg (by omega), if_pos e, if_pos e]
  · rw [if_neg e, if_neg e]
theorem sT_sA34 {σ : rS} {k f : Nat} {i x j v : Int} (hk : rgk k) : sT (sA σ 1034 j v) k f i x = sA (sT σ k f i x) 1034 j v := by
  have h1 : 1 ≤ k := by rcases hk with rfl | rfl | rfl <;> decide
  unfold sT sA; refine Prod.ext rfl (Prod.ext ?_ rfl); funext a b
  show (if a = 1000 * (k + 1) + f ∧ b = i then x else if a = 1034 ∧ b = j then v else σ.2.1 a b) = (if a = 1034 ∧ b = j then v else if a = 1000 * (k + 1) + f ∧ b = i then x else σ.2.1 a b)
  by_cases e : a = 1034 ∧ b = j
  · rw [if_neg (by omega), if_pos e, if_pos e]
  · rw [if_neg e, if_neg e]
theorem sT_sA35 {σ : rS} {k f : Nat} {i x j v : Int} (hk : rgk k) : sT (sA σ 1035 j v) k f i x = sA (sT σ k f i x) 1035 j v := by
  have h1 : 1 ≤ k := by rcases hk with rfl | rfl | rfl <;> decide
  unfold sT sA; refine Prod.ext rfl (Prod.ext ?_ rfl); funext a b
  show (if a = 1000 * (k + 1) + f ∧ b = i then x else if a = 1035 ∧ b = j then v else σ.2.1 a b) = (if a = 1035 ∧ b = j then v else if a = 1000 * (k + 1) + f ∧ b = i then x else σ.2.1 a b)
  by_cases e : a = 1035 ∧ b = j
  · rw [if_neg (by omega), if_pos e, if_pos e]
  · rw [if_neg e, if_neg e]
theorem sT_sA36 {σ : rS} {k f : Nat} {i x j v : Int} (hk : rgk k) : sT (sA σ 1036 j v) k f i x = sA (sT σ k f i x) 1036 j v := by
  have h1 : 1 ≤ k := by rcases hk with rfl | rfl | rfl <;> decide
  unfold sT sA; refine Prod.ext rfl (Prod.ext ?_ rfl); funext a b
  show (if a = 1000 * (k + 1) + f ∧ b = i then x else if a = 1036 ∧ b = j then v else σ.2.1 a b) = (if a = 1036 ∧ b = j then v else if a = 1000 * (k + 1) + f ∧ b = i then x else σ.2.1 a b)
  by_cases e : a = 1036 ∧ b = j
  · rw [if_neg (by omega), if_pos e, if_pos e]
  · rw [if_neg e, if_neg e]
theorem sT_sA37 {σ : rS} {k f : Nat} {i x j v : Int} (hk : rgk k) : sT (sA σ 1037 j v) k f i x = sA (sT σ k f i x) 1037 j v := by
  have h1 : 1 ≤ k := by rcases hk with rfl | rfl | rfl <;> decide
  unfold sT sA; refine Prod.ext rfl (Prod.ext ?_ rfl); funext a b
  show (if a = 1000 * (k + 1) + f ∧ b = i then x else if a = 1037 ∧ b = j then v else σ.2.1 a b) = (if a = 1037 ∧ b = j then v else if a = 1000 * (k + 1) + f ∧ b = i then x else σ.2.1 a b)
  by_cases e : a = 1037 ∧ b = j
  · rw [if_neg (by omega), if_pos e, if_pos e]
  · rw [if_neg e, if_neg e]
theorem sT_sA40 {σ : rS} {k f : Nat} {i x j v : Int} (hk : rgk k) : sT (sA σ 1040 j v) k f i x = sA (sT σ k f i x) 1040 j v := by
  have h1 : 1 ≤ k := by rcases hk with rfl | rfl | rfl <;> decide
  unfold sT sA; refine Prod.ext rfl (Prod.ext ?_ rfl); funext a b
  show (if a = 1000 * (k + 1) + f ∧ b = i then x else if a = 1040 ∧ b = j then v else σ.2.1 a b) = (if a = 1040 ∧ b = j then v else if a = 1000 * (k + 1) + f ∧ b = i then x else σ.2.1 a b)
  by_cases e : a = 1040 ∧ b = j
  · rw [if_neg (by omega), if_pos e, if_pos e]
  · rw [if_neg e, if_neg e]
theorem sT_sA46 {σ : rS} {k f : Nat} {i x j v : Int} (hk : rgk k) : sT (sA σ 1046 j v) k f i x = sA (sT σ k f i x) 1046 j v := by
  have h1 : 1 ≤ k := by rcases hk with rfl | rfl | rfl <;> decide
  unfold sT sA; refine Prod.ext rfl (Prod.ext ?_ rfl); funext a b
  show (if a = 1000 * (k + 1) + f ∧ b = i then x else if a = 1046 ∧ b = j then v else σ.2.1 a b) = (if a = 1046 ∧ b = j then v else if a = 1000 * (k + 1) + f ∧ b = i then x else σ.2.1 a b)
  by_cases e : a = 1046 ∧ b = j
  · rw [if_neg (by omega), if_pos e, if_pos e]
  · rw [if_neg e, if_neg e]
theorem sT_sA47 {σ : rS} {k f : Nat} {i x j v : Int} (hk : rgk k) : sT (sA σ 1047 j v) k f i x = sA (sT σ k f i x) 1047 j v := by
  have h1 : 1 ≤ k := by rcases hk with rfl | rfl | rfl <;> decide
  unfold sT sA; refine Prod.ext rfl (Prod.ext ?_ rfl); funext a b
  show (if a = 1000 * (k + 1) + f ∧ b = i then x else if a = 1047 ∧ b = j then v else σ.2.1 a b) = (if a = 1047 ∧ b = j then v else if a = 1000 * (k + 1) + f ∧ b = i then x else σ.2.1 a b)
  by_cases e : a = 1047 ∧ b = j
  · rw [if_neg (by omega), if_pos e, if_pos e]
  · rw [if_neg e, if_neg e]
theorem sT_sA48 {σ : rS} {k f : Nat} {i x j v : Int} (hk : rgk k) : sT (sA σ 1048 j v) k f i x = sA (sT σ k f i x) 1048 j v := by
  have h1 : 1 ≤ k := by rcases hk with rfl | rfl | rfl <;> decide
  unfold sT sA; refine Prod.ext rfl (Prod.ext ?_ rfl); funext a b
  show (if a = 1000 * (k + 1) + f ∧ b = i then x else if a = 1048 ∧ b = j then v else σ.2.1 a b) = (if a = 1048 ∧ b = j then v else if a = 1000 * (k + 1) + f ∧ b = i then x else σ.2.1 a b)
  by_cases e : a = 1048 ∧ b = j
  · rw [if_neg (by omega), if_pos e, if_pos e]
  · rw [if_neg e, if_neg e]
theorem sT_sA49 {σ : rS} {k f : Nat} {i x j v : Int} (hk : rgk k) : sT (sA σ 1049 j v) k f i x = sA (sT σ k f i x) 1049 j v := by
  have h1 : 1 ≤ k := by rcases hk with rfl | rfl | rfl <;> decide
  unfold sT sA; refine Prod.ext rfl (Prod.ext ?_ rfl); funext a b
  show (if a = 1000 * (k + 1) + f ∧ b = i then x else if a = 1049 ∧ b = j then v else σ.2.1 a b) = (if a = 1049 ∧ b = j then v else if a = 1000 * (k + 1) + f ∧ b = i then x else σ.2.1 a b)
  by_cases e : a = 1049 ∧ b = j
  · rw [if_neg (by omega), if_pos e, if_pos e]
  · rw [if_neg e, if_neg e]
theorem sT_sA50 {σ : rS} {k f : Nat} {i x j v : Int} (hk : rgk k) : sT (sA σ 1050 j v) k f i x = sA (sT σ k f i x) 1050 j v := by
  have h1 : 1 ≤ k := by rcases hk with rfl | rfl | rfl <;> decide
  unfold sT sA; refine Prod.ext rfl (Prod.ext ?_ rfl); funext a b
  show (if a = 1000 * (k + 1) + f ∧ b = i then x else if a = 1050 ∧ b = j then v else σ.2.1 a b) = (if a = 1050 ∧ b = j then v else if a = 1000 * (k + 1) + f ∧ b = i then x else σ.2.1 a b)
  by_cases e : a = 1050 ∧ b = j
  · rw [if_neg (by omega), if_pos e, if_pos e]
  · rw [if_neg e, if_neg e]
theorem sT_sA51 {σ : rS} {k f : Nat} {i x j v : Int} (hk : rgk k) : sT (sA σ 1051 j v) k f i x = sA (sT σ k f i x) 1051 j v := by
  have h1 : 1 ≤ k := by rcases hk with rfl | rfl | rfl <;> decide
  unfold sT sA; refine Prod.ext rfl (Prod.ext ?_ rfl); funext a b
  show (if a = 1000 * (k + 1) + f ∧ b = i then x else if a = 1051 ∧ b = j then v else σ.2.1 a b) = (if a = 1051 ∧ b = j then v else if a = 1000 * (k + 1) + f ∧ b = i then x else σ.2.1 a b)
  by_cases e : a = 1051 ∧ b = j
  · rw [if_neg (by omega), if_pos e, if_pos e]
  · rw [if_neg e, if_neg e]
theorem sT_sA52 {σ : rS} {k f : Nat} {i x j v : Int} (hk : rgk k) : sT (sA σ 1052 j v) k f i x = sA (sT σ k f i x) 1052 j v := by
  have h1 : 1 ≤ k := by rcases hk with rfl | rfl | rfl <;> decide
  unfold sT sA; refine Prod.ext rfl (Prod.ext ?_ rfl); funext a b
  show (if a = 1000 * (k + 1) + f ∧ b = i then x else if a = 1052 ∧ b = j then v else σ.2.1 a b) = (if a = 1052 ∧ b = j then v else if a = 1000 * (k + 1) + f ∧ b = i then x else σ.2.1 a b)
  by_cases e : a = 1052 ∧ b = j
  · rw [if_neg (by omega), if_pos e, if_pos e]
  · rw [if_neg e, if_neg e]
theorem sT_sA53 {σ : rS} {k f : Nat} {i x j v : Int} (hk : rgk k) : sT (sA σ 1053 j v) k f i x = sA (sT σ k f i x) 1053 j v := by
  have h1 : 1 ≤ k := by rcases hk with rfl | rfl | rfl <;> decide
  unfold sT sA; refine Prod.ext rfl (Prod.ext ?_ rfl); funext a b
  show (if a = 1000 * (k + 1) + f ∧ b = i then x else if a = 1053 ∧ b = j then v else σ.2.1 a b) = (if a = 1053 ∧ b = j then v else if a = 1000 * (k + 1) + f ∧ b = i then x else σ.2.1 a b)
  by_cases e : a = 1053 ∧ b = j
  · rw [if_neg (by omega), if_pos e, if_pos e]
  · rw [if_neg e, if_neg e]
theorem sT_sA54 {σ : rS} {k f : Nat} {i x j v : Int} (hk : rgk k) : sT (sA σ 1054 j v) k f i x = sA (sT σ k f i x) 1054 j v := by
  have h1 : 1 ≤ k := by rcases hk with rfl | rfl | rfl <;> decide
  unfold sT sA; refine Prod.ext rfl (Prod.ext ?_ rfl); funext a b
  show (if a = 1000 * (k + 1) + f ∧ b = i then x else if a = 1054 ∧ b = j then v else σ.2.1 a b) = (if a = 1054 ∧ b = j then v else if a = 1000 * (k + 1) + f ∧ b = i then x else σ.2.1 a b)
  by_cases e : a = 1054 ∧ b = j
  · rw [if_neg (by omega), if_pos e, if_pos e]
  · rw [if_neg e, if_neg e]
theorem sT_sA55 {σ : rS} {k f : Nat} {i x j v : Int} (hk : rgk k) : sT (sA σ 1055 j v) k f i x = sA (sT σ k f i x) 1055 j v := by
  have h1 : 1 ≤ k := by rcases hk with rfl | rfl | rfl <;> decide
  unfold sT sA; refine Prod.ext rfl (Prod.ext ?_ rfl); funext a b
  show (if a = 1000 * (k + 1) + f ∧ b = i then x else if a = 1055 ∧ b = j then v else σ.2.1 a b) = (if a = 1055 ∧ b = j then v else if a = 1000 * (k + 1) + f ∧ b = i then x else σ.2.1 a b)
  by_cases e : a = 1055 ∧ b = j
  · rw [if_neg (by omega), if_pos e, if_pos e]
  · rw [if_neg e, if_neg e]
theorem sT_sA56 {σ : rS} {k f : Nat} {i x j v : Int} (hk : rgk k) : sT (sA σ 1056 j v) k f i x = sA (sT σ k f i x) 1056 j v := by
  have h1 : 1 ≤ k := by rcases hk with rfl | rfl | rfl <;> decide
  unfold sT sA; refine Prod.ext rfl (Prod.ext ?_ rfl); funext a b
  show (if a = 1000 * (k + 1) + f ∧ b = i then x else if a = 1056 ∧ b = j then v else σ.2.1 a b) = (if a = 1056 ∧ b = j then v else if a = 1000 * (k + 1) + f ∧ b = i then x else σ.2.1 a b)
  by_cases e : a = 1056 ∧ b = j
  · rw [if_neg (by omega), if_pos e, if_pos e]
  · rw [if_neg e, if_neg e]
theorem sT_sA57 {σ : rS} {k f : Nat} {i x j v : Int} (hk : rgk k) : sT (sA σ 1057 j v) k f i x = sA (sT σ k f i x) 1057 j v := by
  have h1 : 1 ≤ k := by rcases hk with rfl | rfl | rfl <;> decide
  unfold sT sA; refine Prod.ext rfl (Prod.ext ?_ rfl); funext a b
  show (if a = 1000 * (k + 1) + f ∧ b = i then x else if a = 1057 ∧ b = j then v else σ.2.1 a b) = (if a = 1057 ∧ b = j then v else if a = 1000 * (k + 1) + f ∧ b = i then x else σ.2.1 a b)
  by_cases e : a = 1057 ∧ b = j
  · rw [if_neg (by omega), if_pos e, if_pos e]
  · rw [if_neg e, if_neg e]
theorem sT_sA58 {σ : rS} {k f : Nat} {i x j v : Int} (hk : rgk k) : sT (sA σ 1058 j v) k f i x = sA (sT σ k f i x) 1058 j v := by
  have h1 : 1 ≤ k := by rcases hk with rfl | rfl | rfl <;> decide
  unfold sT sA; refine Prod.ext rfl (Prod.ext ?_ rfl); funext a b
  show (if a = 1000 * (k + 1) + f ∧ b = i then x else if a = 1058 ∧ b = j then v else σ.2.1 a b) = (if a = 1058 ∧ b = j then v else if a = 1000 * (k + 1) + f ∧ b = i then x else σ.2.1 a b)
  by_cases e : a = 1058 ∧ b = j
  · rw [if_neg (by omega), if_pos e, if_pos e]
  · rw [if_neg e, if_neg e]
theorem sT_sA59 {σ : rS} {k f : Nat} {i x j v : Int} (hk : rgk k) : sT (sA σ 1059 j v) k f i x = sA (sT σ k f i x) 1059 j v := by
  have h1 : 1 ≤ k := by rcases hk with rfl | rfl | rfl <;> decide
  unfold sT sA; refine Prod.ext rfl (Prod.ext ?_ rfl); funext a b
  show (if a = 1000 * (k + 1) + f ∧ b = i then x else if a = 1059 ∧ b = j then v else σ.2.1 a b) = (if a = 1059 ∧ b = j then v else if a = 1000 * (k + 1) + f ∧ b = i then x else σ.2.1 a b)
  by_cases e : a = 1059 ∧ b = j
  · rw [if_neg (by omega), if_pos e, if_pos e]
  · rw [if_neg e, if_neg e]
theorem sT_sA61 {σ : rS} {k f : Nat} {i x j v : Int} (hk : rgk k) : sT (sA σ 1061 j v) k f i x = sA (sT σ k f i x) 1061 j v := by
  have h1 : 1 ≤ k := by rcases hk with rfl | rfl | rfl <;> decide
  unfold sT sA; refine Prod.ext rfl (Prod.ext ?_ rfl); funext a b
  show (if a = 1000 * (k + 1) + f ∧ b = i then x else if a = 1061 ∧ b = j then v else σ.2.1 a b) = (if a = 1061 ∧ b = j then v else if a = 1000 * (k + 1) + f ∧ b = i then x else σ.2.1 a b)
  by_cases e : a = 1061 ∧ b = j
  · rw [if_neg (by omega), if_pos e, if_pos e]
  · rw [if_neg e, if_neg e]
theorem sT_sA62 {σ : rS} {k f : Nat} {i x j v : Int} (hk : rgk k) : sT (sA σ 1062 j v) k f i x = sA (sT σ k f i x) 1062 j v := by
  have h1 : 1 ≤ k := by rcases hk with rfl | rfl | rfl <;> decide
  unfold sT sA; refine Prod.ext rfl (Prod.ext ?_ rfl); funext a b
  show (if a = 1000 * (k + 1) + f ∧ b = i then x else if a = 1062 ∧ b = j then v else σ.2.1 a b) = (if a = 1062 ∧ b = j then v else if a = 1000 * (k + 1) + f ∧ b = i then x else σ.2.1 a b)
  by_cases e : a = 1062 ∧ b = j
  · rw [if_neg (by omega), if_pos e, if_pos e]
  · rw [if_neg e, if_neg e]
theorem sT_sA63 {σ : rS} {k f : Nat} {i x j v : Int} (hk : rgk k) : sT (sA σ 1063 j v) k f i x = sA (sT σ k f i x) 1063 j v := by
  have h1 : 1 ≤ k := by rcases hk with rfl | rfl | rfl <;> decide
  unfold sT sA; refine Prod.ext rfl (Prod.ext ?_ rfl); funext a b
  show (if a = 1000 * (k + 1) + f ∧ b = i then x else if a = 1063 ∧ b = j then v else σ.2.1 a b) = (if a = 1063 ∧ b = j then v else if a = 1000 * (k + 1) + f ∧ b = i then x else σ.2.1 a b)
  by_cases e : a = 1063 ∧ b = j
  · rw [if_neg (by omega), if_pos e, if_pos e]
  · rw [if_neg e, if_neg e]
theorem sT_sA64 {σ : rS} {k f : Nat} {i x j v : Int} (hk : rgk k) : sT (sA σ 1064 j v) k f i x = sA (sT σ k f i x) 1064 j v := by
  have h1 : 1 ≤ k := by rcases hk with rfl | rfl | rfl <;> decide
  unfold sT sA; refine Prod.ext rfl (Prod.ext ?_ rfl); funext a b
  show (if a = 1000 * (k + 1) + f ∧ b = i then x else if a = 1064 ∧ b = j then v else σ.2.1 a b) = (if a = 1064 ∧ b = j then v else if a = 1000 * (k + 1) + f ∧ b = i then x else σ.2.1 a b)
  by_cases e : a = 1064 ∧ b = j
  · rw [if_neg (by omega), if_pos e, if_pos e]
  · rw [if_neg e, if_neg e]
theorem sT_sA69 {σ : rS} {k f : Nat} {i x j v : Int} (hk : rgk k) : sT (sA σ 1069 j v) k f i x = sA (sT σ k f i x) 1069 j v := by
  have h1 : 1 ≤ k := by rcases hk with rfl | rfl | rfl <;> decide
  unfold sT sA; refine Prod.ext rfl (Prod.ext ?_ rfl); funext a b
  show (if a = 1000 * (k + 1) + f ∧ b = i then x else if a = 1069 ∧ b = j then v else σ.2.1 a b) = (if a = 1069 ∧ b = j then v else if a = 1000 * (k + 1) + f ∧ b = i then x else σ.2.1 a b)
  by_cases e : a = 1069 ∧ b = j
  · rw [if_neg (by omega), if_pos e, if_pos e]
  · rw [if_neg e, if_neg e]
theorem sT_sA75 {σ : rS} {k f : Nat} {i x j v : Int} (hk : rgk k) : sT (sA σ 1075 j v) k f i x = sA (sT σ k f i x) 1075 j v := by
  have h1 : 1 ≤ k := by rcases hk with rfl | rfl | rfl <;> decide
  unfold sT sA; refine Prod.ext rfl (Prod.ext ?_ rfl); funext a b
  show (if a = 1000 * (k + 1) + f ∧ b = i then x else if a = 1075 ∧ b = j then v else σ.2.1 a b) = (if a = 1075 ∧ b = j then v else if a = 1000 * (k + 1) + f ∧ b = i then x else σ.2.1 a b)
  by_cases e : a = 1075 ∧ b = j
  · rw [if_neg (by omega), if_pos e, if_pos e]
  · rw [if_neg e, if_neg e]
theorem sT_sA76 {σ : rS} {k f : Nat} {i x j v : Int} (hk : rgk k) : sT (sA σ 1076 j v) k f i x = sA (sT σ k f i x) 1076 j v := by
  have h1 : 1 ≤ k := by rcases hk with rfl | rfl | rfl <;> decide
  unfold sT sA; refine Prod.ext rfl (Prod.ext ?_ rfl); funext a b
  show (if a = 1000 * (k + 1) + f ∧ b = i then x else if a = 1076 ∧ b = j then v else σ.2.1 a b) = (if a = 1076 ∧ b = j then v else if a = 1000 * (k + 1) + f ∧ b = i then x else σ.2.1 a b)
  by_cases e : a = 1076 ∧ b = j
  · rw [if_neg (by omega), if_pos e, if_pos e]
  · rw [if_neg e, if_neg e]
theorem sT_sA77 {σ : rS} {k f : Nat} {i x j v : Int} (hk : rgk k) : sT (sA σ 1077 j v) k f i x = sA (sT σ k f i x) 1077 j v := by
  have h1 : 1 ≤ k := by rcases hk with rfl | rfl | rfl <;> decide
  unfold sT sA; refine Prod.ext rfl (Prod.ext ?_ rfl); funext a b
  show (if a = 1000 * (k + 1) + f ∧ b = i then x else if a = 1077 ∧ b = j then v else σ.2.1 a b) = (if a = 1077 ∧ b = j then v else if a = 1000 * (k + 1) + f ∧ b = i then x else σ.2.1 a b)
  by_cases e : a = 1077 ∧ b = j
  · rw [if_neg (by omega), if_pos e, if_pos e]
  · rw [if_neg e, if_neg e]
theorem sT_sA78 {σ : rS} {k f : Nat} {i x j v : Int} (hk : rgk k) : sT (sA σ 1078 j v) k f i x = sA (sT σ k f i x) 1078 j v := by
  have h1 : 1 ≤ k := by rcases hk with rfl | rfl | rfl <;> decide
  unfold sT sA; refine Prod.ext rfl (Prod.ext ?_ rfl); funext a b
  show (if a = 1000 * (k + 1) + f ∧ b = i then x else if a = 1078 ∧ b = j then v else σ.2.1 a b) = (if a = 1078 ∧ b = j then v else if a = 1000 * (k + 1) + f ∧ b = i then x else σ.2.1 a b)
  by_cases e : a = 1078 ∧ b = j
  · rw [if_neg (by omega), if_pos e, if_pos e]
  · rw [if_neg e, if_neg e]
theorem sT_sA79 {σ : rS} {k f : Nat} {i x j v : Int} (hk : rgk k) : sT (sA σ 1079 j v) k f i x = sA (sT σ k f i x) 1079 j v := by
  have h1 : 1 ≤ k := by rcases hk with rfl | rfl | rfl <;> decide
  unfold sT sA; refine Prod.ext rfl (Prod.ext ?_ rfl); funext a b
  show (if a = 1000 * (k + 1) + f ∧ b = i then x else if a = 1079 ∧ b = j then v else σ.2.1 a b) = (if a = 1079 ∧ b = j then v else if a = 1000 * (k + 1) + f ∧ b = i then x else σ.2.1 a b)
  by_cases e : a = 1079 ∧ b = j
  · rw [if_neg (by omega), if_pos e, if_pos e]
  · rw [if_neg e, if_neg e]
theorem sT_sA84 {σ : rS} {k f : Nat} {i x j v : Int} (hk : rgk k) : sT (sA σ 1084 j v) k f i x = sA (sT σ k f i x) 1084 j v := by
  have h1 : 1 ≤ k := by rcases hk with rfl | rfl | rfl <;> decide
  unfold sT sA; refine Prod.ext rfl (Prod.ext ?_ rfl); funext a b
  show (if a = 1000 * (k + 1) + f ∧ b = i then x else if a = 1084 ∧ b = j then v else σ.2.1 a b) = (if a = 1084 ∧ b = j then v else if a = 1000 * (k + 1) + f ∧ b = i then x else σ.2.1 a b)
  by_cases e : a = 1084 ∧ b = j
  · rw [if_neg (by omega), if_pos e, if_pos e]
  · rw [if_neg e, if_neg e]
theorem sT_sA85 {σ : rS} {k f : Nat} {i x j v : Int} (hk : rgk k) : sT (sA σ 1085 j v) k f i x = sA (sT σ k f i x) 1085 j v := by
  have h1 : 1 ≤ k := by rcases hk with rfl | rfl | rfl <;> decide
  unfold sT sA; refine Prod.ext rfl (Prod.ext ?_ rfl); funext a b
  show (if a = 1000 * (k + 1) + f ∧ b = i then x else if a = 1085 ∧ b = j then v else σ.2.1 a b) = (if a = 1085 ∧ b = j then v else if a = 1000 * (k + 1) + f ∧ b = i then x else σ.2.1 a b)
  by_cases e : a = 1085 ∧ b = j
  · rw [if_neg (by omega), if_pos e, if_pos e]
  · rw [if_neg e, if_neg e]
theorem sT_sA86 {σ : rS} {k f : Nat} {i x j v : Int} (hk : rgk k) : sT (sA σ 1086 j v) k f i x = sA (sT σ k f i x) 1086 j v := by
  have h1 : 1 ≤ k := by rcases hk with rfl | rfl | rfl <;> decide
  unfold sT sA; refine Prod.ext rfl (Prod.ext ?_ rfl); funext a b
  show (if a = 1000 * (k + 1) + f ∧ b = i then x else if a = 1086 ∧ b = j then v else σ.2.1 a b) = (if a = 1086 ∧ b = j then v else if a = 1000 * (k + 1) + f ∧ b = i then x else σ.2.1 a b)
  by_cases e : a = 1086 ∧ b = j
  · rw [if_neg (by omega), if_pos e, if_pos e]
  · rw [if_neg e, if_neg e]
theorem sT_sA87 {σ : rS} {k f : Nat} {i x j v : Int} (hk : rgk k) : sT (sA σ 1087 j v) k f i x = sA (sT σ k f i x) 1087 j v := by
  have h1 : 1 ≤ k := by rcases hk with rfl | rfl | rfl <;> decide
  unfold sT sA; refine Prod.ext rfl (Prod.ext ?_ rfl); funext a b
  show (if a = 1000 * (k + 1) + f ∧ b = i then x else if a = 1087 ∧ b = j then v else σ.2.1 a b) = (if a = 1087 ∧ b = j then v else if a = 1000 * (k + 1) + f ∧ b = i then x else σ.2.1 a b)
  by_cases e : a = 1087 ∧ b = j
  · rw [if_neg (by omega), if_pos e, if_pos e]
  · rw [if_neg e, if_neg e]
theorem sT_sA89 {σ : rS} {k f : Nat} {i x j v : Int} (hk : rgk k) : sT (sA σ 1089 j v) k f i x = sA (sT σ k f i x) 1089 j v := by
  have h1 : 1 ≤ k := by rcases hk with rfl | rfl | rfl <;> decide
  unfold sT sA; refine Prod.ext rfl (Prod.ext ?_ rfl); funext a b
  show (if a = 1000 * (k + 1) + f ∧ b = i then x else if a = 1089 ∧ b = j then v else σ.2.1 a b) = (if a = 1089 ∧ b = j then v else if a = 1000 * (k + 1) + f ∧ b = i then x else σ.2.1 a b)
  by_cases e : a = 1089 ∧ b = j
  · rw [if_neg (by omega), if_pos e, if_pos e]
  · rw [if_neg e, if_neg e]
theorem sT_sA90 {σ : rS} {k f : Nat} {i x j v : Int} (hk : rgk k) : sT (sA σ 1090 j v) k f i x = sA (sT σ k f i x) 1090 j v := by
  have h1 : 1 ≤ k := by rcases hk with rfl | rfl | rfl <;> decide
  unfold sT sA; refine Prod.ext rfl (Prod.ext ?_ rfl); funext a b
  show (if a = 1000 * (k + 1) + f ∧ b = i then x else if a = 1090 ∧ b = j then v else σ.2.1 a b) = (if a = 1090 ∧ b = j then v else if a = 1000 * (k + 1) + f ∧ b = i then x else σ.2.1 a b)
  by_cases e : a = 1090 ∧ b = j
  · rw [if_neg (by omega), if_pos e, if_pos e]
  · rw [if_neg e, if_neg e]
theorem sT_sA91 {σ : rS} {k f : Nat} {i x j v : Int} (hk : rgk k) : sT (sA σ 1091 j v) k f i x = sA (sT σ k f i x) 1091 j v := by
  have h1 : 1 ≤ k := by rcases hk with rfl | rfl | rfl <;> decide
  unfold sT sA; refine Prod.ext rfl (Prod.ext ?_ rfl); funext a b
  show (if a = 1000 * (k + 1) + f ∧ b = i then x else if a = 1091 ∧ b = j then v else σ.2.1 a b) = (if a = 1091 ∧ b = j then v else if a = 1000 * (k + 1) + f ∧ b = i then x else σ.2.1 a b)
  by_cases e : a = 1091 ∧ b = j
  · rw [if_neg (by omega), if_pos e, if_pos e]
  · rw [if_neg e, if_neg e]
theorem sT_sA93 {σ : rS} {k f : Nat} {i x j v : Int} (hk : rgk k) : sT (sA σ 1093 j v) k f i x = sA (sT σ k f i x) 1093 j v := by
  have h1 : 1 ≤ k := by rcases hk with rfl | rfl | rfl <;> decide
  unfold sT sA; refine Prod.ext rfl (Prod.ext ?_ rfl); funext a b
  show (if a = 1000 * (k + 1) + f ∧ b = i then x else if a = 1093 ∧ b = j then v else σ.2.1 a b) = (if a = 1093 ∧ b = j then v else if a = 1000 * (k + 1) + f ∧ b = i then x else σ.2.1 a b)
  by_cases e : a = 1093 ∧ b = j
  · rw [if_neg (by omega), if_pos e, if_pos e]
  · rw [if_neg e, if_neg e]
theorem sT_sA102 {σ : rS} {k f : Nat} {i x j v : Int} (hk : rgk k) : sT (sA σ 1102 j v) k f i x = sA (sT σ k f i x) 1102 j v := by
  have h1 : 1 ≤ k := by rcases hk with rfl | rfl | rfl <;> decide
  unfold sT sA; refine Prod.ext rfl (Prod.ext ?_ rfl); funext a b
  show (if a = 1000 * (k + 1) + f ∧ b = i then x else if a = 1102 ∧ b = j then v else σ.2.1 a b) = (if a = 1102 ∧ b = j then v else if a = 1000 * (k + 1) + f ∧ b = i then x else σ.2.1 a b)
  by_cases e : a = 1102 ∧ b = j
  · rw [if_neg (by omega), if_pos e, if_pos e]
  · rw [if_neg e, if_neg e]
theorem sT_sA105 {σ : rS} {k f : Nat} {i x j v : Int} (hk : rgk k) : sT (sA σ 1105 j v) k f i x = sA (sT σ k f i x) 1105 j v := by
  have h1 : 1 ≤ k := by rcases hk with rfl | rfl | rfl <;> decide
  unfold sT sA; refine Prod.ext rfl (Prod.ext ?_ rfl); funext a b
  show (if a = 1000 * (k + 1) + f ∧ b = i then x else if a = 1105 ∧ b = j then v else σ.2.1 a b) = (if a = 1105 ∧ b = j then v else if a = 1000 * (k + 1) + f ∧ b = i then x else σ.2.1 a b)
  by_cases e : a = 1105 ∧ b = j
  · rw [if_neg (by omega), if_pos e, if_pos e]
  · rw [if_neg e, if_neg e]
theorem sT_sA106 {σ : rS} {k f : Nat} {i x j v : Int} (hk : rgk k) : sT (sA σ 1106 j v) k f i x = sA (sT σ k f i x) 1106 j v := by
  have h1 : 1 ≤ k := by rcases hk with rfl | rfl | rfl <;> decide
  unfold sT sA; refine Prod.ext rfl (Prod.ext ?_ rfl); funext a b
  show (if a = 1000 * (k + 1) + f ∧ b = i then x else if a = 1106 ∧ b = j then v else σ.2.1 a b) = (if a = 1106 ∧ b = j then v else if a = 1000 * (k + 1) + f ∧ b = i then x else σ.2.1 a b)
  by_cases e : a = 1106 ∧ b = j
  · rw [if_neg (by omega), if_pos e, if_pos e]
  · rw [if_neg e, if_neg e]
theorem sT_sA107 {σ : rS} {k f : Nat} {i x j v : Int} (hk : rgk k) : sT (sA σ 1107 j v) k f i x = sA (sT σ k f i x) 1107 j v := by
  have h1 : 1 ≤ k := by rcases hk with rfl | rfl | rfl <;> decide
  unfold sT sA; refine Prod.ext rfl (Prod.ext ?_ rfl); funext a b
  show (if a = 1000 * (k + 1) + f ∧ b = i then x else if a = 1107 ∧ b = j then v else σ.2.1 a b) = (if a = 1107 ∧ b = j then v else if a = 1000 * (k + 1) + f ∧ b = i then x else σ.2.1 a b)
  by_cases e : a = 1107 ∧ b = j
  · rw [if_neg (by omega), if_pos e, if_pos e]
  · rw [if_neg e, if_neg e]
theorem sT_sA108 {σ : rS} {k f : Nat} {i x j v : Int} (hk : rgk k) : sT (sA σ 1108 j v) k f i x = sA (sT σ k f i x) 1108 j v := by
  have h1 : 1 ≤ k := by rcases hk with rfl | rfl | rfl <;> decide
  unfold sT sA; refine Prod.ext rfl (Prod.ext ?_ rfl); funext a b
  show (if a = 1000 * (k + 1) + f ∧ b = i then x else if a = 1108 ∧ b = j then v else σ.2.1 a b) = (if a = 1108 ∧ b = j then v else if a = 1000 * (k + 1) + f ∧ b = i then x else σ.2.1 a b)
  by_cases e : a = 1108 ∧ b = j
  · rw [if_neg (by omega), if_pos e, if_pos e]
  · rw [if_neg e, if_neg e]
theorem sT_sA109 {σ : rS} {k f : Nat} {i x j v : Int} (hk : rgk k) : sT (sA σ 1109 j v) k f i x = sA (sT σ k f i x) 1109 j v := by
  have h1 : 1 ≤ k := by rcases hk with rfl | rfl | rfl <;> decide
  unfold sT sA; refine Prod.ext rfl (Prod.ext ?_ rfl); funext a b
  show (if a = 1000 * (k + 1) + f ∧ b = i then x else if a = 1109 ∧ b = j then v else σ.2.1 a b) = (if a = 1109 ∧ b = j then v else if a = 1000 * (k + 1) + f ∧ b = i then x else σ.2.1 a b)
  by_cases e : a = 1109 ∧ b = j
  · rw [if_neg (by omega), if_pos e, if_pos e]
  · rw [if_neg e, if_neg e]
theorem sT_sA110 {σ : rS} {k f : Nat} {i x j v : Int} (hk : rgk k) : sT (sA σ 1110 j v) k f i x = sA (sT σ k f i x) 1110 j v := by
  have h1 : 1 ≤ k := by rcases hk with rfl | rfl | rfl <;> decide
  unfold sT sA; refine Prod.ext rfl (Prod.ext ?_ rfl); funext a b
  show (if a = 1000 * (k + 1) + f ∧ b = i then x else if a = 1110 ∧ b = j then v else σ.2.1 a b) = (if a = 1110 ∧ b = j then v else if a = 1000 * (k + 1) + f ∧ b = i then x else σ.2.1 a b)
  by_cases e : a = 1110 ∧ b = j
  · rw [if_neg (by omega), if_pos e, if_pos e]
  · rw [if_neg e, if_neg e]
theorem sT_sA111 {σ : rS} {k f : Nat} {i x j v : Int} (hk : rgk k) : sT (sA σ 1111 j v) k f i x = sA (sT σ k f i x) 1111 j v := by
  have h1 : 1 ≤ k := by rcases hk with rfl | rfl | rfl <;> decide
  unfold sT sA; refine Prod.ext rfl (Prod.ext ?_ rfl); funext a b
  show (if a = 1000 * (k + 1) + f ∧ b = i then x else if a = 1111 ∧ b = j then v else σ.2.1 a b) = (if a = 1111 ∧ b = j then v else if a = 1000 * (k + 1) + f ∧ b = i then x else σ.2.1 a b)
  by_cases e : a = 1111 ∧ b = j
  · rw [if_neg (by omega), if_pos e, if_pos e]
  · rw [if_neg e, if_neg e]
theorem sT_sA114 {σ : rS} {k f : Nat} {i x j v : Int} (hk : rgk k) : sT (sA σ 1114 j v) k f i x = sA (sT σ k f i x) 1114 j v := by
  have h1 : 1 ≤ k := by rcases hk with rfl | rfl | rfl <;> decide
  unfold sT sA; refine Prod.ext rfl (Prod.ext ?_ rfl); funext a b
  show (if a = 1000 * (k + 1) + f ∧ b = i then x else if a = 1114 ∧ b = j then v else σ.2.1 a b) = (if a = 1114 ∧ b = j then v else if a = 1000 * (k + 1) + f ∧ b = i then x else σ.2.1 a b)
  by_cases e : a = 1114 ∧ b = j
  · rw [if_neg (by omega), if_pos e, if_pos e]
  · rw [if_neg e, if_neg e]
theorem sT_sA115 {σ : rS} {k f : Nat} {i x j v : Int} (hk : rgk k) : sT (sA σ 1115 j v) k f i x = sA (sT σ k f i x) 1115 j v := by
  have h1 : 1 ≤ k := by rcases hk with rfl | rfl | rfl <;> decide
  unfold sT sA; refine Prod.ext rfl (Prod.ext ?_ rfl); funext a b
  show (if a = 1000 * (k + 1) + f ∧ b = i then x else if a = 1115 ∧ b = j then v else σ.2.1 a b) = (if a = 1115 ∧ b = j then v else if a = 1000 * (k + 1) + f ∧ b = i then x else σ.2.1 a b)
  by_cases e : a = 1115 ∧ b = j
  · rw [if_neg (by omega), if_pos e, if_pos e]
  · rw [if_neg e, if_neg e]
theorem sT_sA116 {σ : rS} {k f : Nat} {i x j v : Int} (hk : rgk k) : sT (sA σ 1116 j v) k f i x = sA (sT σ k f i x) 1116 j v := by
  have h1 : 1 ≤ k := by rcases hk with rfl | rfl | rfl <;> decide
  unfold sT sA; refine Prod.ext rfl (Prod.ext ?_ rfl); funext a b
  show (if a = 1000 * (k + 1) + f ∧ b = i then x else if a = 1116 ∧ b = j then v else σ.2.1 a b) = (if a = 1116 ∧ b = j then v else if a = 1000 * (k + 1) + f ∧ b = i then x else σ.2.1 a b)
  by_cases e : a = 1116 ∧ b = j
  · rw [if_neg (by omega), if_pos e, if_pos e]
  · rw [if_neg e, if_neg e]
theorem sT_sA117 {σ : rS} {k f : Nat} {i x j v : Int} (hk : rgk k) : sT (sA σ 1117 j v) k f i x = sA (sT σ k f i x) 1117 j v := by
  have h1 : 1 ≤ k := by rcases hk with rfl | rfl | rfl <;> decide
  unfold sT sA; refine Prod.ext rfl (Prod.ext ?_ rfl); funext a b
  show (if a = 1000 * (k + 1) + f ∧ b = i then x else if a = 1117 ∧ b = j then v else σ.2.1 a b) = (if a = 1117 ∧ b = j then v else if a = 1000 * (k + 1) + f ∧ b = i then x else σ.2.1 a b)
  by_cases e : a = 1117 ∧ b = j
  · rw [if_neg (by omega), if_pos e, if_pos e]
  · rw [if_neg e, if_neg e]
theorem sT_sA120 {σ : rS} {k f : Nat} {i x j v : Int} (hk : rgk k) : sT (sA σ 1120 j v) k f i x = sA (sT σ k f i x) 1120 j v := by
  have h1 : 1 ≤ k := by rcases hk with rfl | rfl | rfl <;> decide
  unfold sT sA; refine Prod.ext rfl (Prod.ext ?_ rfl); funext a b
  show (if a = 1000 * (k + 1) + f ∧ b = i then x else if a = 1120 ∧ b = j then v else σ.2.1 a b) = (if a = 1120 ∧ b = j then v else if a = 1000 * (k + 1) + f ∧ b = i then x else σ.2.1 a b)
  by_cases e : a = 1120 ∧ b = j
  · rw [if_neg (by omega), if_pos e, if_pos e]
  · rw [if_neg e, if_neg e]
theorem sT_sA121 {σ : rS} {k f : Nat} {i x j v : Int} (hk : rgk k) : sT (sA σ 1121 j v) k f i x = sA (sT σ k f i x) 1121 j v := by
  have h1 : 1 ≤ k := by rcases hk with rfl | rfl | rfl <;> decide
  unfold sT sA; refine Prod.ext rfl (Prod.ext ?_ rfl); funext a b
  show (if a = 1000 * (k + 1) + f ∧ b = i then x else if a = 1121 ∧ b = j then v else σ.2.1 a b) = (if a = 1121 ∧ b = j then v else if a = 1000 * (k + 1) + f ∧ b = i then x else σ.2.1 a b)
  by_cases e : a = 1121 ∧ b = j
  · rw [if_neg (by omega), if_pos e, if_pos e]
  · rw [if_neg e, if_neg e]
theorem sT_sA124 {σ : rS} {k f : Nat} {i x j v : Int} (hk : rgk k) : sT (sA σ 1124 j v) k f i x = sA (sT σ k f i x) 1124 j v := by
  have h1 : 1 ≤ k := by rcases hk with rfl | rfl | rfl <;> decide
  unfold sT sA; refine Prod.ext rfl (Prod.ext ?_ rfl); funext a b
  show (if a = 1000 * (k + 1) + f ∧ b = i then x else if a = 1124 ∧ b = j then v else σ.2.1 a b) = (if a = 1124 ∧ b = j then v else if a = 1000 * (k + 1) + f ∧ b = i then x else σ.2.1 a b)
  by_cases e : a = 1124 ∧ b = j
  · rw [if_neg (by omega), if_pos e, if_pos e]
  · rw [if_neg e, if_neg e]
theorem sT_sA125 {σ : rS} {k f : Nat} {i x j v : Int} (hk : rgk k) : sT (sA σ 1125 j v) k f i x = sA (sT σ k f i x) 1125 j v := by
  have h1 : 1 ≤ k := by rcases hk with rfl | rfl | rfl <;> decide
  unfold sT sA; refine Prod.ext rfl (Prod.ext ?_ rfl); funext a b
  show (if a = 1000 * (k + 1) + f ∧ b = i then x else if a = 1125 ∧ b = j then v else σ.2.1 a b) = (if a = 1125 ∧ b = j then v else if a = 1000 * (k + 1) + f ∧ b = i then x else σ.2.1 a b)
  by_cases e : a = 1125 ∧ b = j
  · rw [if_neg (by omega), if_pos e, if_pos e]
  · rw [if_neg e, if_neg e]
theorem sT_sA126 {σ : rS} {k f : Nat} {i x j v : Int} (hk : rgk k) : sT (sA σ 1126 j v) k f i x = sA (sT σ k f i x) 1126 j v := by
  have h1 : 1 ≤ k := by rcases hk with rfl | rfl | rfl <;> decide
  unfold sT sA; refine Prod.ext rfl (Prod.ext ?_ rfl); funext a b
  show (if a = 1000 * (k + 1) + f ∧ b = i then x else if a = 1126 ∧ b = j then v else σ.2.1 a b) = (if a = 1126 ∧ b = j then v else if a = 1000 * (k + 1) + f ∧ b = i then x else σ.2.1 a b)
  by_cases e : a = 1126 ∧ b = j
  · rw [if_neg (by omega), if_pos e, if_pos e]
  · rw [if_neg e, if_neg e]
theorem sT_sA127 {σ : rS} {k f : Nat} {i x j v : Int} (hk : rgk k) : sT (sA σ 1127 j v) k f i x = sA (sT σ k f i x) 1127 j v := by
  have h1 : 1 ≤ k := by rcases hk with rfl | rfl | rfl <;> decide
  unfold sT sA; refine Prod.ext rfl (Prod.ext ?_ rfl); funext a b
  show (if a = 1000 * (k + 1) + f ∧ b = i then x else if a = 1127 ∧ b = j then v else σ.2.1 a b) = (if a = 1127 ∧ b = j then v else if a = 1000 * (k + 1) + f ∧ b = i then x else σ.2.1 a b)
  by_cases e : a = 1127 ∧ b = j
  · rw [if_neg (by omega), if_pos e, if_pos e]
  · rw [if_neg e, if_neg e]
theorem sT_sA128 {σ : rS} {k f : Nat} {i x j v : Int} (hk : rgk k) : sT (sA σ 1128 j v) k f i x = sA (sT σ k f i x) 1128 j v := by
  have h1 : 1 ≤ k := by rcases hk with rfl | rfl | rfl <;> decide
  unfold sT sA; refine Prod.ext rfl (Prod.ext ?_ rfl); funext a b
  show (if a = 1000 * (k + 1) + f ∧ b = i then x else if a = 1128 ∧ b = j then v else σ.2.1 a b) = (if a = 1128 ∧ b = j then v else if a = 1000 * (k + 1) + f ∧ b = i then x else σ.2.1 a b)
  by_cases e : a = 1128 ∧ b = j
  · rw [if_neg (by omega), if_pos e, if_pos e]
  · rw [if_neg e, if_neg e]
theorem sT_sA129 {σ : rS} {k f : Nat} {i x j v : Int} (hk : rgk k) : sT (sA σ 1129 j v) k f i x = sA (sT σ k f i x) 1129 j v := by
  have h1 : 1 ≤ k := by rcases hk with rfl | rfl | rfl <;> decide
  unfold sT sA; refine Prod.ext rfl (Prod.ext ?_ rfl); funext a b
  show (if a = 1000 * (k + 1) + f ∧ b = i then x else if a = 1129 ∧ b = j then v else σ.2.1 a b) = (if a = 1129 ∧ b = j then v else if a = 1000 * (k + 1) + f ∧ b = i then x else σ.2.1 a b)
  by_cases e : a = 1129 ∧ b = j
  · rw [if_neg (by omega), if_pos e, if_pos e]
  · rw [if_neg e, if_neg e]
theorem sT_sA136 {σ : rS} {k f : Nat} {i x j v : Int} (hk : rgk k) : sT (sA σ 1136 j v) k f i x = sA (sT σ k f i x) 1136 j v := by
  have h1 : 1 ≤ k := by rcases hk with rfl | rfl | rfl <;> decide
  unfold sT sA; refine Prod.ext rfl (Prod.ext ?_ rfl); funext a b
  show (if a = 1000 * (k + 1) + f ∧ b = i then x else if a = 1136 ∧ b = j then v else σ.2.1 a b) = (if a = 1136 ∧ b = j then v else if a = 1000 * (k + 1) + f ∧ b = i then x else σ.2.1 a b)
  by_cases e : a = 1136 ∧ b = j
  · rw [if_neg (by omega), if_pos e, if_pos e]
  · rw [if_neg e, if_neg e]
theorem sT_sA138 {σ : rS} {k f : Nat} {i x j v : Int} (hk : rgk k) : sT (sA σ 1138 j v) k f i x = sA (sT σ k f i x) 1138 j v := by
  have h1 : 1 ≤ k := by rcases hk with rfl | rfl | rfl <;> decide
  unfold sT sA; refine Prod.ext rfl (Prod.ext ?_ rfl); funext a b
  show (if a = 1000 * (k + 1) + f ∧ b = i then x else if a = 1138 ∧ b = j then v else σ.2.1 a b) = (if a = 1138 ∧ b = j then v else if a = 1000 * (k + 1) + f ∧ b = i then x else σ.2.1 a b)
  by_cases e : a = 1138 ∧ b = j
  · rw [if_neg (by omega), if_pos e, if_pos e]
  · rw [if_neg e, if_neg e]
theorem RG.c34 {σ s : rS} {k : Nat} {c j x : Int} (hk : rgk k) (h : RG σ s k c) (hj : rF σ k 38 ≤ j) (h0 : rA s (1000 * (k + 1) + 34) j = 0) : RG σ (sA s (1000 * (k + 1) + 34) j x) k c := by
  have e7 := kq_k hk
  have hk1 : 1 ≤ k := by rcases hk with rfl | rfl | rfl <;> decide
  obtain ⟨a, ⟨b1, b2, b3, b4, b5, b6⟩, w1, w2, w4, w5⟩ := h
  refine ⟨fun f i hf hi hc => by rw [tr_g34]; exact a f i hf hi hc, ⟨fun i hi => by rw [tr_g34]; exact b1 i hi, fun y n hy hz => ?_, b3, b4, b5, fun i hi => ?_⟩, w1, w2, fun i hi => ?_, fun i hi => ?_⟩
  · obtain ⟨i, z1, z2, z3, z4, z5⟩ := b2 y n hy hz
    rw [e7] at z2 z3 z4 z5
    refine ⟨i, z1, ?_, ?_, ?_, ?_⟩ <;> rw [e7]
    · exact z2
    · rw [A_sA_ne (by omega)]; exact z3
    · rw [A_sA_ni (fun e => by subst e; rw [h0] at z4; exact hy z4.symm)]; exact z4
    · rw [A_sA_ne (by omega)]; exact z5
  · have q := b6 i hi
    rw [e7] at *
    rw [← q]; unfold ck3
    rw [A_sA_ni (by omega), A_sA_ne (by omega), A_sA_ne (by omega)]
  · rw [A_sA_ne (by omega), A_sA_ne (by omega)]; exact w4 i hi
  · rw [A_sA_ne (by omega)]; exact w5 i hi
theorem TS.c34 {s : rS} {k S : Nat} {x y d w lo hi p q u v j z : Int} (hk : rgk k) (e : TS s k S x y d w lo hi p q u v) (h0 : rA s (1000 * (k + 1) + 34) j = 0) : TS (sA s (1000 * (k + 1) + 34) j z) k S x y d w lo hi p q u v := by
  have e7 := kq_k hk
  refine TT.fr e (fun f i _ => by rw [tr_g34]) (fun y n hy hz => ?_)
  obtain ⟨i, z1, z2, z3, z4, z5⟩ := hz
  rw [e7] at z2 z3 z4 z5
  refine ⟨i, z1, ?_, ?_, ?_, ?_⟩ <;> rw [e7]
  · exact z2
  · rw [A_sA_ne (by omega)]; exact z3
  · rw [A_sA_ni (fun e => by subst e; rw [h0] at z4; exact hy z4.symm)]; exact z4
  · rw [A_sA_ne (by omega)]; exact z5
theorem RG.ck {σ s : rS} {k : Nat} {c i : Int} (hk : rgk k) (h : RG σ s k c) (hi : i < rF σ k 38) : rA s (1000 * (k + 1) + 34) i = rA σ (1000 * (k + 1) + 34) i := by
  have e7 := kq_k hk
  have := h.2.1.2.2.2.2.2 i (by rw [e7]; exact hi)
  rw [e7] at this; exact congrArg Prod.fst this
theorem RG.ck33 {σ s : rS} {k : Nat} {c i : Int} (hk : rgk k) (h : RG σ s k c) (hi : i < rF σ k 38) : rA s (1000 * (k + 1) + 33) i = rA σ (1000 * (k + 1) + 33) i := by
  have e7 := kq_k hk
  have := h.2.1.2.2.2.2.2 i (by rw [e7]; exact hi)
  rw [e7] at this; exact congrArg (fun x => x.2.1) this
theorem RG.ck35 {σ s : rS} {k : Nat} {c i : Int} (hk : rgk k) (h : RG σ s k c) (hi : i < rF σ k 38) : rA s (1000 * (k + 1) + 35) i = rA σ (1000 * (k + 1) + 35) i := by
  have e7 := kq_k hk
  have := h.2.1.2.2.2.2.2 i (by rw [e7]; exact hi)
  rw [e7] at this; exact congrArg (fun x => x.2.2) this

