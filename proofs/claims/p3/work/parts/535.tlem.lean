/-! THE TREE IN THE STATE, side conditions by omega -/
theorem TS.cst {σ : rS} {k S : Nat} {x d w lo hi u v d' w' lo' hi' u' v' : Int} (e : TS σ k S x 0 d w lo hi 0 0 u v) (h1 : d = d' := by omega) (h2 : w = w' := by omega) (h3 : lo' ≤ lo := by omega) (h4 : hi ≤ hi' := by omega) (h5 : u = u' := by omega) (h6 : v = v' := by omega) : TS σ k S x 0 d' w' lo' hi' 0 0 u' v' := by
  subst h1 h2 h5 h6
  exact TT.mono e h3 h4 (Int.le_refl _) (Int.le_refl _) (Or.inl ⟨rfl, rfl⟩)
theorem RG.tsA {σ s : rS} {k S : Nat} {c x d w lo hi u v : Int} (hk : rgk k) (h : RG σ s k c) (e : TS σ k S x 0 d w lo hi 0 0 u v) (h1 : hi ≤ rF σ k 7 := by first | omega | (simp only [rF_sT]; omega)) (h2 : 0 ≤ rF σ k 7 := by first | omega | (simp only [rF_sT]; omega)) (h3 : v ≤ rF σ k 32 := by first | omega | (simp only [rF_sT]; omega)) (h4 : (c < lo ∨ hi ≤ c ∨ c = 0) ∧ 0 ≤ c := by omega) : TS s k S x 0 d w lo hi 0 0 u v := RG.ts hk h e h1 h2 h3 h4.1 (by omega)
theorem TS.tstA {σ : rS} {k S f : Nat} {x d w lo hi u v i z : Int} (hk : rgk k) (h : TS σ k S x 0 d w lo hi 0 0 u v) (hf : f < 6 := by decide) (h1 : i < lo ∨ hi ≤ i := by omega) : TS (sT σ k f i z) k S x 0 d w lo hi 0 0 u v := h.tst hk hf h1 (by omega)
theorem RG.fA {σ s : rS} {k f : Nat} {c i : Int} (hk : rgk k) (h : RG σ s k c) (hf : f < 6 := by decide) (hi : i < rF σ k 7 := by first | omega | (simp only [rF_sT]; omega)) (hc : i ≠ c ∨ c = 0 := by omega) : tr s k f i = tr σ k f i := h.f hk hf hi (by omega)
theorem tr_ne {σ : rS} {k f f' : Nat} {i x j : Int} (hk : rgk k) (h : f' ≠ f ∨ j ≠ i) (hf : f < 6 := by decide) : tr (sT σ k f i x) k f' j = tr σ k f' j := by rw [tr_sT hk hf, if_neg (by omega)]
theorem tr_eq {σ : rS} {k f : Nat} {i x : Int} (hk : rgk k) (hf : f < 6 := by decide) : tr (sT σ k f i x) k f i = x := by rw [tr_sT hk hf, if_pos ⟨rfl, rfl⟩]
theorem LQ.cst {σ : rS} {k S : Nat} {h l d w lo hi u v d' w' u' v' lo' hi' : Int} (e : LQ σ k S h l d w lo hi u v) (h1 : d = d' := by omega) (h2 : w = w' := by omega) (h3 : lo = lo' := by omega) (h4 : hi ≤ hi' := by omega) (h5 : u = u' := by omega) (h6 : v = v' := by omega) : LQ σ k S h l d' w' lo' hi' u' v' := by
  subst h1 h2 h3 h5 h6
  rcases e with q | ⟨a, b, m, a', w1, w2, e1, e2, e3, e4, e5, e6⟩
  · exact Or.inl ⟨q.1, q.2.1, q.2.2.1, by omega, q.2.2.2.2⟩
  · exact Or.inr ⟨a, b, m, a', w1, w2, e1, e2.cst, e3, e4, by omega, e6⟩
theorem RG.lqA {σ s : rS} {k S : Nat} {c h l d w lo hi u v : Int} (hk : rgk k) (g : RG σ s k c) (e : LQ σ k S h l d w lo hi u v) (h1 : hi ≤ rF σ k 7 := by first | omega | (simp only [rF_sT]; omega)) (h3 : v ≤ rF σ k 32 := by first | omega | (simp only [rF_sT]; omega)) (h4 : c < lo ∨ hi ≤ c ∨ c = 0 := by omega) (h0 : 0 < lo := by omega) (hc : 0 ≤ c := by omega) : LQ s k S h l d w lo hi u v := RG.lq hk g e h1 h3 h4 h0 hc
theorem LQ.p0 {σ : rS} {k S f : Nat} {h l x d w w2 lo m hi u a v i : Int} (hk : rgk k) (q : LQ σ k S h l d w lo m u a) (e : TS σ k S x 0 d w2 m hi 0 0 a v) (h5 : tr σ k 5 x = 0) (hS : S < 100 := by decide) (hf : f < 6 := by decide) (hx : m ≤ x ∧ x < hi ∧ x ≠ 0 := by omega) (h1 : (i < lo ∨ hi ≤ i) ∧ 0 < i := by omega) (hl : l = 0 := by omega) : LQ (sT σ k f i x) k S x x d (w + w2) lo hi u v := by subst hl; exact q.pushT0 hk hS hf e h5 hx h1.1 h1.2
theorem LQ.p1 {σ : rS} {k S : Nat} {h l x d w w2 lo m hi u a v : Int} (hk : rgk k) (q : LQ σ k S h l d w lo m u a) (e : TS σ k S x 0 d w2 m hi 0 0 a v) (h5 : tr σ k 5 x = 0) (hl : l ≠ 0 := by omega) (hS : S < 100 := by decide) (hx : m ≤ x ∧ x < hi ∧ x ≠ 0 := by omega) (hlo : 0 < lo := by omega) : LQ (sT σ k 5 l x) k S h x d (w + w2) lo hi u v := q.pushT1 hk hS hl e h5 hx hlo
theorem LQ.rg {σ : rS} {k S : Nat} {h l d w lo hi u v : Int} (q : LQ σ k S h l d w lo hi u v) : l = 0 ∨ lo ≤ l ∧ l < hi := by
  rcases q with q | ⟨a, b, m, a', w1, w2, e1, e2, e3, e4, e5, e6⟩
  · exact Or.inl q.1
  · have := e1.le; exact Or.inr ⟨by omega, e5⟩
theorem LQ.l5 {σ : rS} {k S : Nat} {h l d w lo hi u v : Int} (q : LQ σ k S h l d w lo hi u v) (hl : l ≠ 0) : tr σ k 5 l = 0 := by
  rcases q with q | ⟨a, b, m, a', w1, w2, e1, e2, e3, e4, e5, e6⟩
  · exact absurd q.1 hl
  · exact e3
theorem LQ.h0 {σ : rS} {k S : Nat} {h l d w lo hi u v : Int} (q : LQ σ k S h l d w lo hi u v) (hl : l = 0) : h = 0 := by
  rcases q with q | q
  · exact q.2.1
  · exact absurd hl q.1
theorem LQ.cat {σ : rS} {k S : Nat} {h l d w lo hi u v lo' : Int} (q : LQ σ k S h l d w lo hi u v) (hl : lo' ≤ lo) : LQ σ k S h l d w lo' hi u v := by
  rcases q with q | ⟨a, b, m, a', w1, w2, e1, e2, e3, e4, e5, e6⟩
  · exact Or.inl ⟨q.1, q.2.1, q.2.2.1, by omega, q.2.2.2.2⟩
  · exact Or.inr ⟨a, b, m, a', w1, w2, TT.mono e1 hl (Int.le_refl _) (Int.le_refl _) (Int.le_refl _) (Or.inl ⟨rfl, rfl⟩), e2, e3, e4, e5, e6⟩

theorem TS.item {σ : rS} {gk : Nat} {d x a b c l1 h1 u u1 l2 h2 u2 l3 h3 v lo hi : Int} (hk : rgk gk) (H1 : tr σ gk 0 x = 41) (H2 : tr σ gk 1 x = a) (H3 : tr σ gk 2 x = b) (H4 : tr σ gk 3 x = c) (H5 : TS σ gk 2 a 0 d 0 l1 h1 0 0 u u1) (H6 : TS σ gk 103 b 0 d 0 l2 h2 0 0 u1 u2) (H7 : TS σ gk 104 c 0 d 0 l3 h3 0 0 u2 v) (H0 : 0 ≤ d ∧ d ≤ 20 := by omega) (H8 : lo ≤ x ∧ x < l1 ∧ l1 ≤ h1 ∧ h1 ≤ l2 ∧ l2 ≤ h2 ∧ h2 ≤ l3 ∧ l3 ≤ h3 ∧ h3 ≤ hi := by omega) (H9 : u ≤ u1 ∧ u1 ≤ u2 ∧ u2 ≤ v := by omega) : TS σ gk 1 x 0 d 1 lo hi 0 0 u v := TT.item H0 H1 H2 H3 H4 H5 H6 H7 H8 H9
theorem TS.zone {σ : rS} {gk : Nat} {x d lo hi u v : Int} (hk : rgk gk) (H0 : TS σ gk 1 x 0 d 1 lo hi 0 0 u v) : TS σ gk 17 x 0 d 0 lo hi 0 0 u v := TT.zone H0
theorem TS.zip {σ : rS} {gk : Nat} {d x z a s n l1 h1 u m l2 h2 v lo hi : Int} (hk : rgk gk) (H1 : tr σ gk 0 x = 41) (H2 : tr σ gk 1 x = z) (H3 : tr σ gk 2 x = 0) (H4 : tr σ gk 3 x = 0) (H5 : tr σ gk 0 z = 40) (H6 : tr σ gk 1 z = a) (H7 : tr σ gk 2 z = s) (H8 : TS σ gk 101 a 0 d n l1 h1 0 0 u m) (H9 : TS σ gk 10 s 0 d 0 l2 h2 0 0 m v) (H11 : zz σ gk s n) (H0 : 0 ≤ d ∧ d ≤ 20 := by omega) (H10 : s ≠ 0 := by omega) (H12 : lo ≤ l1 ∧ l1 ≤ h1 ∧ h1 ≤ z ∧ z < l2 ∧ l2 ≤ h2 ∧ h2 ≤ x ∧ x < hi := by omega) (H13 : u ≤ m ∧ m ≤ v := by omega) : TS σ gk 17 x 0 d 0 lo hi 0 0 u v := TT.zip H0 H1 H2 H3 H4 H5 H6 H7 H8 H9 H10 H11 H12 H13
theorem TS.str {σ : rS} {gk : Nat} {x a b lo hi d u : Int} (hk : rgk gk) (H0 : tr σ gk 0 x = 30) (H1 : tr σ gk 1 x = a) (H2 : tr σ gk 2 x = b) (H3 : 0 ≤ a ∧ 0 ≤ b ∧ b ≤ 4000 ∧ a + b ≤ 60000 := by omega) (H4 : lo ≤ x ∧ x < hi := by omega) : TS σ gk 2 x 0 d 0 lo hi 0 0 u u := TT.str H0 H1 H2 H3 H4
theorem TS.tru {σ : rS} {gk : Nat} {x k lo hi d u : Int} (hk : rgk gk) (H0 : tr σ gk 0 x = k) (H1 : k = 31 ∨ k = 32 := by omega) (H2 : lo ≤ x ∧ x < hi := by omega) : TS σ gk 2 x 0 d 0 lo hi 0 0 u u := TT.tru H0 H1 H2
theorem TS.psub {σ : rS} {gk : Nat} {x d lo hi u v : Int} (hk : rgk gk) (H0 : TS σ gk 10 x 0 d 0 lo hi 0 0 u v) : TS σ gk 2 x 0 d 0 lo hi 0 0 u v := TT.psub H0
theorem TS.row {σ : rS} {gk : Nat} {x a d l1 h1 u v lo hi : Int} (hk : rgk gk) (H0 : tr σ gk 0 x = 34) (H1 : tr σ gk 1 x = a) (H2 : TS σ gk 107 a 0 d 0 l1 h1 0 0 u v) (H3 : lo ≤ x ∧ x < l1 ∧ l1 ≤ h1 ∧ h1 ≤ hi := by omega) : TS σ gk 2 x 0 d 0 lo hi 0 0 u v := TT.row H0 H1 H2 H3
theorem TS.name {σ : rS} {gk : Nat} {x lo hi d u : Int} (hk : rgk gk) (H0 : tr σ gk 0 x = 35) (H1 : lo ≤ x ∧ x < hi := by omega) : TS σ gk 2 x 0 d 0 lo hi 0 0 u u := TT.name H0 H1
theorem TS.call {σ : rS} {gk : Nat} {x a d l1 h1 u v lo hi : Int} (hk : rgk gk) (H0 : tr σ gk 0 x = 36) (H1 : tr σ gk 2 x = a) (H2 : TS σ gk 106 a 0 d 0 l1 h1 0 0 u v) (H3 : lo ≤ x ∧ x < l1 ∧ l1 ≤ h1 ∧ h1 ≤ hi := by omega) : TS σ gk 2 x 0 d 0 lo hi 0 0 u v := TT.call H0 H1 H2 H3
theorem TS.byt {σ : rS} {gk : Nat} {x a b d l1 h1 u m l2 h2 v lo hi d1 : Int} (hk : rgk gk) (H0 : tr σ gk 0 x = 37) (H1 : tr σ gk 1 x = a) (H2 : tr σ gk 2 x = b) (H3 : TS σ gk 1 a 0 d1 1 l1 h1 0 0 u m) (H4 : TS σ gk 106 b 0 d 0 l2 h2 0 0 m v) (H5 : lo ≤ l1 ∧ l1 ≤ h1 ∧ h1 ≤ x ∧ x < l2 ∧ l2 ≤ h2 ∧ h2 ≤ hi := by omega) (H6 : u ≤ m ∧ m ≤ v := by omega) (hd1 : d1 = d + 1 := by omega) : TS σ gk 2 x 0 d 0 lo hi 0 0 u v := TT.byt H0 H1 H2 (hd1 ▸ H3) H4 H5 H6
theorem TS.func {σ : rS} {gk : Nat} {x k a d l1 h1 u v lo hi d1 : Int} (hk : rgk gk) (H0 : tr σ gk 0 x = 38) (H1 : tr σ gk 1 x = k) (H3 : tr σ gk 2 x = a) (H4 : TS σ gk 1 a 0 d1 1 l1 h1 0 0 u v) (H2 : 0 ≤ k ∧ k ≤ 8 := by omega) (H5 : lo ≤ x ∧ x < l1 ∧ l1 ≤ h1 ∧ h1 ≤ hi := by omega) (hd1 : d1 = d + 1 := by omega) : TS σ gk 2 x 0 d 0 lo hi 0 0 u v := TT.func H0 H1 H2 H3 (hd1 ▸ H4) H5
theorem TS.word {σ : rS} {gk : Nat} {x a d l1 h1 u v lo hi d1 : Int} (hk : rgk gk) (H0 : tr σ gk 0 x = 39) (H1 : tr σ gk 1 x = a) (H2 : TS σ gk 1 a 0 d1 1 l1 h1 0 0 u v) (H3 : lo ≤ l1 ∧ l1 ≤ h1 ∧ h1 ≤ x ∧ x < hi := by omega) (hd1 : d1 = d + 1 := by omega) : TS σ gk 2 x 0 d 0 lo hi 0 0 u v := TT.word H0 H1 (hd1 ▸ H2) H3
theorem TS.pt {σ : rS} {gk : Nat} {x a lo hi d u : Int} (hk : rgk gk) (H0 : tr σ gk 0 x = 42) (H1 : tr σ gk 1 x = a) (H2 : 0 ≤ a ∧ a < 17000 := by omega) (H3 : lo ≤ x ∧ x < hi := by omega) : TS σ gk 3 x 0 d 0 lo hi 0 0 u u := TT.pt H0 H1 H2 H3
theorem TS.ptby {σ : rS} {gk : Nat} {x a d l1 h1 u v lo hi d1 : Int} (hk : rgk gk) (H0 : tr σ gk 0 x = 43) (H1 : tr σ gk 1 x = a) (H2 : TS σ gk 1 a 0 d1 1 l1 h1 0 0 u v) (H3 : lo ≤ x ∧ x < l1 ∧ l1 ≤ h1 ∧ h1 ≤ hi := by omega) (hd1 : d1 = d + 1 := by omega) : TS σ gk 3 x 0 d 0 lo hi 0 0 u v := TT.ptby H0 H1 (hd1 ▸ H2) H3
theorem TS.gp {σ : rS} {gk : Nat} {x a nx d l1 h1 u m l2 h2 v lo hi : Int} (hk : rgk gk) (H0 : tr σ gk 0 x = 44) (H1 : tr σ gk 1 x = a) (H3 : tr σ gk 5 a = nx) (H4 : TS σ gk 5 a 0 d 0 l1 h1 0 0 u m) (H5 : TS σ gk 105 nx 0 d 0 l2 h2 0 0 m v) (H2 : a ≠ 0 := by omega) (H6 : lo ≤ l1 ∧ l1 ≤ a ∧ a < h1 ∧ h1 ≤ x ∧ x < l2 ∧ l2 ≤ h2 ∧ h2 ≤ hi := by omega) (H7 : u ≤ m ∧ m ≤ v := by omega) : TS σ gk 4 x 0 d 0 lo hi 0 0 u v := TT.gp H0 H1 H2 H3 H4 H5 H6 H7
theorem TS.apc {σ : rS} {gk : Nat} {x a d l1 h1 u v lo hi : Int} (hk : rgk gk) (H0 : tr σ gk 0 x = 45) (H1 : tr σ gk 2 x = a) (H2 : TS σ gk 106 a 0 d 0 l1 h1 0 0 u v) (H3 : lo ≤ x ∧ x < l1 ∧ l1 ≤ h1 ∧ h1 ≤ hi := by omega) : TS σ gk 5 x 0 d 0 lo hi 0 0 u v := TT.apc H0 H1 H2 H3
theorem TS.apb {σ : rS} {gk : Nat} {x a b d l1 h1 u m l2 h2 v lo hi d1 : Int} (hk : rgk gk) (H0 : tr σ gk 0 x = 46) (H1 : tr σ gk 1 x = a) (H2 : tr σ gk 2 x = b) (H3 : TS σ gk 1 a 0 d1 1 l1 h1 0 0 u m) (H4 : TS σ gk 106 b 0 d 0 l2 h2 0 0 m v) (H5 : lo ≤ l1 ∧ l1 ≤ h1 ∧ h1 ≤ x ∧ x < l2 ∧ l2 ≤ h2 ∧ h2 ≤ hi := by omega) (H6 : u ≤ m ∧ m ≤ v := by omega) (hd1 : d1 = d + 1 := by omega) : TS σ gk 5 x 0 d 0 lo hi 0 0 u v := TT.apb H0 H1 H2 (hd1 ▸ H3) H4 H5 H6
theorem TS.aps {σ : rS} {gk : Nat} {x a d l1 h1 u v lo hi : Int} (hk : rgk gk) (H0 : tr σ gk 0 x = 47) (H1 : tr σ gk 1 x = a) (H2 : TS σ gk 10 a 0 d 0 l1 h1 0 0 u v) (H3 : lo ≤ l1 ∧ l1 ≤ h1 ∧ h1 ≤ x ∧ x < hi := by omega) : TS σ gk 5 x 0 d 0 lo hi 0 0 u v := TT.aps H0 H1 H2 H3
theorem TS.giv {σ : rS} {gk : Nat} {x a d l1 h1 u v lo hi d1 : Int} (hk : rgk gk) (H0 : tr σ gk 0 x = 50) (H1 : tr σ gk 1 x = a) (H2 : TS σ gk 1 a 0 d1 1 l1 h1 0 0 u v) (H3 : lo ≤ l1 ∧ l1 ≤ h1 ∧ h1 ≤ x ∧ x < hi := by omega) (hd1 : d1 = d + 1 := by omega) : TS σ gk 6 x 0 d 0 lo hi 0 0 u v := TT.giv H0 H1 (hd1 ▸ H2) H3
theorem TS.nam {σ : rS} {gk : Nat} {x a d l1 h1 u v lo hi d1 : Int} (hk : rgk gk) (H0 : tr σ gk 0 x = 51) (H1 : tr σ gk 1 x = a) (H2 : TS σ gk 1 a 0 d1 1 l1 h1 0 0 u v) (H3 : lo ≤ x ∧ x < l1 ∧ l1 ≤ h1 ∧ h1 ≤ hi := by omega) (hd1 : d1 = d + 1 := by omega) : TS σ gk 6 x 0 d 0 lo hi 0 0 u v := TT.nam H0 H1 (hd1 ▸ H2) H3
theorem TS.lk0 {σ : rS} {gk : Nat} {x lo hi d u : Int} (hk : rgk gk) (H0 : tr σ gk 0 x = 59) (H1 : tr σ gk 1 x = 0) (H2 : lo ≤ x ∧ x < hi := by omega) : TS σ gk 7 x 0 d 0 lo hi 0 0 u u := TT.lk0 H0 H1 H2
theorem TS.lk {σ : rS} {gk : Nat} {x a d l1 h1 u v lo hi d1 : Int} (hk : rgk gk) (H0 : tr σ gk 0 x = 59) (H1 : tr σ gk 1 x = a) (H2 : TS σ gk 1 a 0 d1 1 l1 h1 0 0 u v) (H3 : lo ≤ l1 ∧ l1 ≤ h1 ∧ h1 ≤ x ∧ x < hi := by omega) (hd1 : d1 = d + 1 := by omega) : TS σ gk 7 x 0 d 0 lo hi 0 0 u v := TT.lk H0 H1 (hd1 ▸ H2) H3
theorem TS.op0 {σ : rS} {gk : Nat} {x a lo hi d u : Int} (hk : rgk gk) (H0 : tr σ gk 0 x = 53) (H1 : tr σ gk 1 x = a) (H2 : tr σ gk 2 x = 0) (H3 : 3 ≤ a ∧ a ≤ 4 := by omega) (H4 : lo ≤ x ∧ x < hi := by omega) : TS σ gk 8 x 0 d 0 lo hi 0 0 u u := TT.op0 H0 H1 H2 H3 H4
theorem TS.op {σ : rS} {gk : Nat} {x k a d l1 h1 u v lo hi d1 : Int} (hk : rgk gk) (H0 : tr σ gk 0 x = 53) (H1 : tr σ gk 1 x = k) (H3 : tr σ gk 2 x = a) (H4 : TS σ gk 1 a 0 d1 1 l1 h1 0 0 u v) (H2 : 0 ≤ k ∧ k ≤ 4 := by omega) (H5 : lo ≤ x ∧ x < l1 ∧ l1 ≤ h1 ∧ h1 ≤ hi := by omega) (hd1 : d1 = d + 1 := by omega) : TS σ gk 8 x 0 d 0 lo hi 0 0 u v := TT.op H0 H1 H2 H3 (hd1 ▸ H4) H5
theorem TS.pm {σ : rS} {gk : Nat} {x a b lo hi d u : Int} (hk : rgk gk) (H0 : tr σ gk 0 x = 52) (H1 : tr σ gk 1 x = a) (H3 : tr σ gk 2 x = b) (H2 : 0 ≤ a ∧ a < 17000 := by omega) (H4 : b = 0 ∨ b = -1 := by omega) (H5 : lo ≤ x ∧ x < hi := by omega) : TS σ gk 9 x 0 d 1 lo hi 0 0 u u := TT.pm H0 H1 H2 H3 H4 H5
theorem TS.pmv {σ : rS} {gk : Nat} {x a b d l1 h1 u v lo hi : Int} (hk : rgk gk) (H0 : tr σ gk 0 x = 52) (H1 : tr σ gk 1 x = a) (H3 : tr σ gk 2 x = b) (H4 : TS σ gk 19 b 0 d 0 l1 h1 0 0 u v) (H2 : 0 ≤ a ∧ a < 17000 := by omega) (H5 : lo ≤ x ∧ x < l1 ∧ l1 ≤ h1 ∧ h1 ≤ hi := by omega) : TS σ gk 9 x 0 d 1 lo hi 0 0 u v := TT.pmv H0 H1 H2 H3 H4 H5
theorem TS.subn {σ : rS} {gk : Nat} {x a b c d l1 h1 u m d2 w2 l2 h2 v lo hi : Int} (hk : rgk gk) (H0 : tr σ gk 0 x = 33) (H1 : tr σ gk 1 x = a) (H2 : tr σ gk 2 x = b) (H3 : tr σ gk 3 x = c) (H5 : TS σ gk 109 b 0 d c l1 h1 0 0 u m) (H6 : TS σ gk 11 a 0 d2 w2 l2 h2 l2 h2 m v) (H4 : c ≤ 12 := by omega) (H7 : w2 ≤ 20000 := by omega) (H8 : lo ≤ x ∧ x < l1 ∧ l1 ≤ h1 ∧ h1 ≤ l2 ∧ l2 ≤ h2 ∧ h2 ≤ hi := by omega) (H9 : u ≤ m ∧ m ≤ v := by omega) : TS σ gk 10 x 0 d 0 lo hi 0 0 u v := TT.subn H0 H1 H2 H3 H4 H5 H6 H7 H8 H9
theorem TS.co0 {σ : rS} {gk : Nat} {lo hi d u : Int} (hk : rgk gk) (H0 : lo ≤ hi := by omega) : TS σ gk 20 0 0 d 0 lo hi 0 0 u u := TT.co0 H0
theorem TS.co1 {σ : rS} {gk : Nat} {x d lo hi u v : Int} (hk : rgk gk) (H0 : TS σ gk 14 x 0 d 0 lo hi 0 0 u v) : TS σ gk 20 x 0 d 0 lo hi 0 0 u v := TT.co1 H0
theorem TS.c45 {σ : rS} {gk : Nat} {x d lo hi u v : Int} (hk : rgk gk) (H0 : TS σ gk 15 x 0 d 0 lo hi 0 0 u v) : TS σ gk 14 x 0 d 0 lo hi 0 0 u v := TT.c45 H0
theorem TS.c56 {σ : rS} {gk : Nat} {x d lo hi u v : Int} (hk : rgk gk) (H0 : TS σ gk 16 x 0 d 0 lo hi 0 0 u v) : TS σ gk 15 x 0 d 0 lo hi 0 0 u v := TT.c56 H0
theorem TS.eith {σ : rS} {gk : Nat} {x a nx d l1 h1 u m l2 h2 v lo hi : Int} (hk : rgk gk) (H0 : tr σ gk 0 x = 55) (H1 : tr σ gk 1 x = a) (H3 : tr σ gk 5 a = nx) (H4 : TS σ gk 15 a 0 d 0 l1 h1 0 0 u m) (H5 : TS σ gk 115 nx 0 d 0 l2 h2 0 0 m v) (H2 : a ≠ 0 := by omega) (H6 : lo ≤ l1 ∧ l1 ≤ a ∧ a < h1 ∧ h1 ≤ x ∧ x < l2 ∧ l2 ≤ h2 ∧ h2 ≤ hi := by omega) (H7 : u ≤ m ∧ m ≤ v := by omega) : TS σ gk 14 x 0 d 0 lo hi 0 0 u v := TT.eith H0 H1 H2 H3 H4 H5 H6 H7
theorem TS.both {σ : rS} {gk : Nat} {x a nx d l1 h1 u m l2 h2 v lo hi : Int} (hk : rgk gk) (H0 : tr σ gk 0 x = 56) (H1 : tr σ gk 1 x = a) (H3 : tr σ gk 5 a = nx) (H4 : TS σ gk 16 a 0 d 0 l1 h1 0 0 u m) (H5 : TS σ gk 116 nx 0 d 0 l2 h2 0 0 m v) (H2 : a ≠ 0 := by omega) (H6 : lo ≤ l1 ∧ l1 ≤ a ∧ a < h1 ∧ h1 ≤ x ∧ x < l2 ∧ l2 ≤ h2 ∧ h2 ≤ hi := by omega) (H7 : u ≤ m ∧ m ≤ v := by omega) : TS σ gk 15 x 0 d 0 lo hi 0 0 u v := TT.both H0 H1 H2 H3 H4 H5 H6 H7
theorem TS.not {σ : rS} {gk : Nat} {x a d l1 h1 u v lo hi d1 : Int} (hk : rgk gk) (H0 : tr σ gk 0 x = 57) (H1 : tr σ gk 1 x = a) (H2 : TS σ gk 16 a 0 d1 0 l1 h1 0 0 u v) (H3 : lo ≤ l1 ∧ l1 ≤ h1 ∧ h1 ≤ x ∧ x < hi := by omega) (hd1 : d1 = d + 1 := by omega) : TS σ gk 16 x 0 d 0 lo hi 0 0 u v := TT.not H0 H1 (hd1 ▸ H2) H3
theorem TS.clk {σ : rS} {gk : Nat} {x a d l1 h1 u v lo hi d1 : Int} (hk : rgk gk) (H0 : tr σ gk 0 x = 59) (H1 : tr σ gk 1 x = a) (H2 : TS σ gk 14 a 0 d1 0 l1 h1 0 0 u v) (H3 : lo ≤ l1 ∧ l1 ≤ h1 ∧ h1 ≤ x ∧ x < hi := by omega) (hd1 : d1 = d + 1 := by omega) : TS σ gk 16 x 0 d 0 lo hi 0 0 u v := TT.clk H0 H1 (hd1 ▸ H2) H3
theorem TS.ask {σ : rS} {gk : Nat} {x a d l1 h1 u v lo hi : Int} (hk : rgk gk) (H0 : tr σ gk 0 x = 58) (H1 : tr σ gk 1 x = a) (H2 : TS σ gk 1 a 0 d 1 l1 h1 0 0 u v) (H3 : lo ≤ l1 ∧ l1 ≤ h1 ∧ h1 ≤ x ∧ x < hi := by omega) : TS σ gk 16 x 0 d 0 lo hi 0 0 u v := TT.ask H0 H1 H2 H3
theorem TS.ent {σ : rS} {gk : Nat} {x a b c d l1 h1 u v lo hi : Int} (hk : rgk gk) (H0 : tr σ gk 0 x = 54) (H1 : tr σ gk 1 x = a) (H2 : tr σ gk 2 x = b) (H4 : tr σ gk 3 x = c) (H5 : TS σ gk 19 c 0 d 0 l1 h1 0 0 u v) (H3 : 0 ≤ a ∧ 0 ≤ b ∧ b ≤ 4000 ∧ a + b ≤ 60000 := by omega) (H6 : lo ≤ x ∧ x < l1 ∧ l1 ≤ h1 ∧ h1 ≤ hi := by omega) : TS σ gk 18 x 0 d 1 lo hi 0 0 u v := TT.ent H0 H1 H2 H3 H4 H5 H6
theorem TS.vstr {σ : rS} {gk : Nat} {x a b lo hi d u : Int} (hk : rgk gk) (H0 : tr σ gk 0 x = 30) (H1 : tr σ gk 1 x = a) (H2 : tr σ gk 2 x = b) (H3 : 0 ≤ a ∧ 0 ≤ b ∧ b ≤ 4000 ∧ a + b ≤ 60000 := by omega) (H4 : lo ≤ x ∧ x < hi := by omega) : TS σ gk 19 x 0 d 0 lo hi 0 0 u u := TT.vstr H0 H1 H2 H3 H4
theorem TS.vtru {σ : rS} {gk : Nat} {x k lo hi d u : Int} (hk : rgk gk) (H0 : tr σ gk 0 x = k) (H1 : k = 31 ∨ k = 32 ∨ k = 34 ∨ k = 56 := by omega) (H2 : lo ≤ x ∧ x < hi := by omega) : TS σ gk 19 x 0 d 0 lo hi 0 0 u u := TT.vtru H0 H1 H2
theorem TS.vsub {σ : rS} {gk : Nat} {x d lo hi u v : Int} (hk : rgk gk) (H0 : TS σ gk 10 x 0 d 0 lo hi 0 0 u v) : TS σ gk 19 x 0 d 0 lo hi 0 0 u v := TT.vsub H0
theorem TT.inv1 {t : Nat → Int → Int} {Z : Int → Int → Prop} {S : Nat} {x y d w lo hi p q u v : Int} (h : TT t Z S x y d w lo hi p q u v) (hS : S = 1) : (0 ≤ d ∧ d ≤ 20) ∧ t 0 x = 41 ∧ ∃ l1 h1 l2 h2 l3 h3 u1 u2, TT t Z 2 (t 1 x) 0 d 0 l1 h1 0 0 u u1 ∧ TT t Z 103 (t 2 x) 0 d 0 l2 h2 0 0 u1 u2 ∧ TT t Z 104 (t 3 x) 0 d 0 l3 h3 0 0 u2 v ∧ lo ≤ x ∧ x < l1 ∧ l1 ≤ h1 ∧ h1 ≤ l2 ∧ l2 ≤ h2 ∧ h2 ≤ l3 ∧ l3 ≤ h3 ∧ h3 ≤ hi ∧ u ≤ u1 ∧ u1 ≤ u2 ∧ u2 ≤ v := by
  refine (h (fun S x y d w lo hi p q u v => TT t Z S x y d w lo hi p q u v ∧ (S = 1 → (0 ≤ d ∧ d ≤ 20) ∧ t 0 x = 41 ∧ ∃ l1 h1 l2 h2 l3 h3 u1 u2, TT t Z 2 (t 1 x) 0 d 0 l1 h1 0 0 u u1 ∧ TT t Z 103 (t 2 x) 0 d 0 l2 h2 0 0 u1 u2 ∧ TT t Z 104 (t 3 x) 0 d 0 l3 h3 0 0 u2 v ∧ lo ≤ x ∧ x < l1 ∧ l1 ≤ h1 ∧ h1 ≤ l2 ∧ l2 ≤ h2 ∧ h2 ≤ l3 ∧ l3 ≤ h3 ∧ h3 ≤ hi ∧ u ≤ u1 ∧ u1 ≤ u2 ∧ u2 ≤ v)) ⟨?_, ?_, ?_, ?_, ?_, ?_, ?_, ?_, ?_, ?_, ?_, ?_, ?_, ?_, ?_, ?_, ?_, ?_, ?_, ?_, ?_, ?_, ?_, ?_, ?_, ?_, ?_, ?_, ?_, ?_, ?_, ?_, ?_, ?_, ?_, ?_, ?_, ?_, ?_, ?_, ?_, ?_, ?_, ?_, ?_, ?_, ?_, ?_, ?_, ?_⟩).2 hS
  · intro S lo hi p q x d u H0 H1
    exact ⟨TT.nil H0 H1, fun e => absurd e (by omega)⟩
  · intro S x nx d w1 l1 h1 p1 q1 u m y w2 l2 h2 p2 q2 v lo hi p q w H0 H1 H2 G3 G4 H5 H6 H7 H8
    obtain ⟨H3, ih3⟩ := G3
    obtain ⟨H4, ih4⟩ := G4
    exact ⟨TT.cons H0 H1 H2 H3 H4 H5 H6 H7 H8, fun e => absurd e (by omega)⟩
  · intro d x a b c l1 h1 u u1 l2 h2 u2 l3 h3 v lo hi H0 H1 H2 H3 H4 G5 G6 G7 H8 H9
    obtain ⟨H5, ih5⟩ := G5
    obtain ⟨H6, ih6⟩ := G6
    obtain ⟨H7, ih7⟩ := G7
    exact ⟨TT.item H0 H1 H2 H3 H4 H5 H6 H7 H8 H9, fun _ => ⟨H0, H1, l1, h1, l2, h2, l3, h3, u1, u2, by rw [H2]; exact H5, by rw [H3]; exact H6, by rw [H4]; exact H7, by omega⟩⟩
  · intro x d lo hi u v G0
    obtain ⟨H0, ih0⟩ := G0
    exact ⟨TT.zone H0, fun e => absurd e (by omega)⟩
  · intro d x z a s n l1 h1 u m l2 h2 v lo hi H0 H1 H2 H3 H4 H5 H6 H7 G8 G9 H10 H11 H12 H13
    obtain ⟨H8, ih8⟩ := G8
    obtain ⟨H9, ih9⟩ := G9
    exact ⟨TT.zip H0 H1 H2 H3 H4 H5 H6 H7 H8 H9 H10 H11 H12 H13, fun e => absurd e (by omega)⟩
  · intro x a b lo hi d u H0 H1 H2 H3 H4
    exact ⟨TT.str H0 H1 H2 H3 H4, fun e => absurd e (by omega)⟩
  · intro x k lo hi d u H0 H1 H2
    exact ⟨TT.tru H0 H1 H2, fun e => absurd e (by omega)⟩
  · intro x d lo hi u v G0
    obtain ⟨H0, ih0⟩ := G0
    exact ⟨TT.psub H0, fun e => absurd e (by omega)⟩
  · intro x a d l1 h1 u v lo hi H0 H1 G2 H3
    obtain ⟨H2, ih2⟩ := G2
    exact ⟨TT.row H0 H1 H2 H3, fun e => absurd e (by omega)⟩
  · intro x lo hi d u H0 H1
    exact ⟨TT.name H0 H1, fun e => absurd e (by omega)⟩
  · intro x a d l1 h1 u v lo hi H0 H1 G2 H3
    obtain ⟨H2, ih2⟩ := G2
    exact ⟨TT.call H0 H1 H2 H3, fun e => absurd e (by omega)⟩
  · intro x a b d l1 h1 u m l2 h2 v lo hi H0 H1 H2 G3 G4 H5 H6
    obtain ⟨H3, ih3⟩ := G3
    obtain ⟨H4, ih4⟩ := G4
    exact ⟨TT.byt H0 H1 H2 H3 H4 H5 H6, fun e => absurd e (by omega)⟩
  · intro x k a d l1 h1 u v lo hi H0 H1 H2 H3 G4 H5
    obtain ⟨H4, ih4⟩ := G4
    exact ⟨TT.func H0 H1 H2 H3 H4 H5, fun e => absurd e (by omega)⟩
  · intro x a d l1 h1 u v lo hi H0 H1 G2 H3
    obtain ⟨H2, ih2⟩ := G2
    exact ⟨TT.word H0 H1 H2 H3, fun e => absurd e (by omega)⟩
  · intro x a lo hi d u H0 H1 H2 H3
    exact ⟨TT.pt H0 H1 H2 H3, fun e => absurd e (by omega)⟩
  · intro x a d l1 h1 u v lo hi H0 H1 G2 H3
    obtain ⟨H2, ih2⟩ := G2
    exact ⟨TT.ptby H0 H1 H2 H3, fun e => absurd e (by omega)⟩
  · intro x a nx d l1 h1 u m l2 h2 v lo hi H0 H1 H2 H3 G4 G5 H6 H7
    obtain ⟨H4, ih4⟩ := G4
    obtain ⟨H5, ih5⟩ := G5
    exact ⟨TT.gp H0 H1 H2 H3 H4 H5 H6 H7, fun e => absurd e (by omega)⟩
  · intro x a d l1 h1 u v lo hi H0 H1 G2 H3
    obtain ⟨H2, ih2⟩ := G2
    exact ⟨TT.apc H0 H1 H2 H3, fun e => absurd e (by omega)⟩
  · intro x a b d l1 h1 u m l2 h2 v lo hi H0 H1 H2 G3 G4 H5 H6
    obtain ⟨H3, ih3⟩ := G3
    obtain ⟨H4, ih4⟩ := G4
    exact ⟨TT.apb H0 H1 H2 H3 H4 H5 H6, fun e => absurd e (by omega)⟩
  · intro x a d l1 h1 u v lo hi H0 H1 G2 H3
    obtain ⟨H2, ih2⟩ := G2
    exact ⟨TT.aps H0 H1 H2 H3, fun e => absurd e (by omega)⟩
  · intro x a d l1 h1 u v lo hi H0 H1 G2 H3
    obtain ⟨H2, ih2⟩ := G2
    exact ⟨TT.giv H0 H1 H2 H3, fun e => absurd e (by omega)⟩
  · intro x a d l1 h1 u v lo hi H0 H1 G2 H3
    obtain ⟨H2, ih2⟩ := G2
    exact ⟨TT.nam H0 H1 H2 H3, fun e => absurd e (by omega)⟩
  · intro x lo hi d u H0 H1 H2
    exact ⟨TT.lk0 H0 H1 H2, fun e => absurd e (by omega)⟩
  · intro x a d l1 h1 u v lo hi H0 H1 G2 H3
    obtain ⟨H2, ih2⟩ := G2
    exact ⟨TT.lk H0 H1 H2 H3, fun e => absurd e (by omega)⟩
  · intro x a lo hi d u H0 H1 H2 H3 H4
    exact ⟨TT.op0 H0 H1 H2 H3 H4, fun e => absurd e (by omega)⟩
  · intro x k a d l1 h1 u v lo hi H0 H1 H2 H3 G4 H5
    obtain ⟨H4, ih4⟩ := G4
    exact ⟨TT.op H0 H1 H2 H3 H4 H5, fun e => absurd e (by omega)⟩
  · intro x a b lo hi d u H0 H1 H2 H3 H4 H5
    exact ⟨TT.pm H0 H1 H2 H3 H4 H5, fun e => absurd e (by omega)⟩
  · intro x a b d l1 h1 u v lo hi H0 H1 H2 H3 G4 H5
    obtain ⟨H4, ih4⟩ := G4
    exact ⟨TT.pmv H0 H1 H2 H3 H4 H5, fun e => absurd e (by omega)⟩
  · intro x a b c d l1 h1 u m d2 w2 l2 h2 v lo hi H0 H1 H2 H3 H4 G5 G6 H7 H8 H9
    obtain ⟨H5, ih5⟩ := G5
    obtain ⟨H6, ih6⟩ := G6
    exact ⟨TT.subn H0 H1 H2 H3 H4 H5 H6 H7 H8 H9, fun e => absurd e (by omega)⟩
  · intro x a d w l1 h1 p1 q1 u v lo hi p q H0 H1 G2 H3 H4
    obtain ⟨H2, ih2⟩ := G2
    exact ⟨TT.txt H0 H1 H2 H3 H4, fun e => absurd e (by omega)⟩
  · intro x k p q lo hi d u H0 H1 H2
    exact ⟨TT.byte H0 H1 H2, fun e => absurd e (by omega)⟩
  · intro x a b i d l1 h1 u m l2 h2 v lo hi p q w H0 H1 H2 H3 H4 G5 G6 H7 H8 H9
    obtain ⟨H5, ih5⟩ := G5
    obtain ⟨H6, ih6⟩ := G6
    exact ⟨TT.expr H0 H1 H2 H3 H4 H5 H6 H7 H8 H9, fun e => absurd e (by omega)⟩
  · intro x a d w1 l1 h1 p1 q1 u v lo hi p q w H0 H1 G2 H3 H4 H5
    obtain ⟨H2, ih2⟩ := G2
    exact ⟨TT.ife H0 H1 H2 H3 H4 H5, fun e => absurd e (by omega)⟩
  · intro x c i u lo hi p q d H0 H1 H2 H3 H4 H5 H6 H7
    exact ⟨TT.part H0 H1 H2 H3 H4 H5 H6 H7, fun e => absurd e (by omega)⟩
  · intro x c i u b d2 w2 l1 h1 p1 q1 v w lo hi p q d H0 H1 H2 H3 H4 H5 H6 G7 H8 H9 H10 H11
    obtain ⟨H7, ih7⟩ := G7
    exact ⟨TT.part2 H0 H1 H2 H3 H4 H5 H6 H7 H8 H9 H10 H11, fun e => absurd e (by omega)⟩
  · intro x c i lo hi p q d u H0 H1 H2 H3 H4 H5
    exact ⟨TT.sup H0 H1 H2 H3 H4 H5, fun e => absurd e (by omega)⟩
  · intro x a b d l1 h1 u m w2 l2 h2 p1 q1 v lo hi p q w H0 H1 H2 G3 G4 H5 H6 H7 H8
    obtain ⟨H3, ih3⟩ := G3
    obtain ⟨H4, ih4⟩ := G4
    exact ⟨TT.br H0 H1 H2 H3 H4 H5 H6 H7 H8, fun e => absurd e (by omega)⟩
  · intro lo hi d u H0
    exact ⟨TT.co0 H0, fun e => absurd e (by omega)⟩
  · intro x d lo hi u v G0
    obtain ⟨H0, ih0⟩ := G0
    exact ⟨TT.co1 H0, fun e => absurd e (by omega)⟩
  · intro x d lo hi u v G0
    obtain ⟨H0, ih0⟩ := G0
    exact ⟨TT.c45 H0, fun e => absurd e (by omega)⟩
  · intro x d lo hi u v G0
    obtain ⟨H0, ih0⟩ := G0
    exact ⟨TT.c56 H0, fun e => absurd e (by omega)⟩
  · intro x a nx d l1 h1 u m l2 h2 v lo hi H0 H1 H2 H3 G4 G5 H6 H7
    obtain ⟨H4, ih4⟩ := G4
    obtain ⟨H5, ih5⟩ := G5
    exact ⟨TT.eith H0 H1 H2 H3 H4 H5 H6 H7, fun e => absurd e (by omega)⟩
  · intro x a nx d l1 h1 u m l2 h2 v lo hi H0 H1 H2 H3 G4 G5 H6 H7
    obtain ⟨H4, ih4⟩ := G4
    obtain ⟨H5, ih5⟩ := G5
    exact ⟨TT.both H0 H1 H2 H3 H4 H5 H6 H7, fun e => absurd e (by omega)⟩
  · intro x a d l1 h1 u v lo hi H0 H1 G2 H3
    obtain ⟨H2, ih2⟩ := G2
    exact ⟨TT.not H0 H1 H2 H3, fun e => absurd e (by omega)⟩
  · intro x a d l1 h1 u v lo hi H0 H1 G2 H3
    obtain ⟨H2, ih2⟩ := G2
    exact ⟨TT.clk H0 H1 H2 H3, fun e => absurd e (by omega)⟩
  · intro x a d l1 h1 u v lo hi H0 H1 G2 H3
    obtain ⟨H2, ih2⟩ := G2
    exact ⟨TT.ask H0 H1 H2 H3, fun e => absurd e (by omega)⟩
  · intro x a b c d l1 h1 u v lo hi H0 H1 H2 H3 H4 G5 H6
    obtain ⟨H5, ih5⟩ := G5
    exact ⟨TT.ent H0 H1 H2 H3 H4 H5 H6, fun e => absurd e (by omega)⟩
  · intro x a b lo hi d u H0 H1 H2 H3 H4
    exact ⟨TT.vstr H0 H1 H2 H3 H4, fun e => absurd e (by omega)⟩
  · intro x k lo hi d u H0 H1 H2
    exact ⟨TT.vtru H0 H1 H2, fun e => absurd e (by omega)⟩
  · intro x d lo hi u v G0
    obtain ⟨H0, ih0⟩ := G0
    exact ⟨TT.vsub H0, fun e => absurd e (by omega)⟩
theorem TT.nil0 {t : Nat → Int → Int} {Z : Int → Int → Prop} {S : Nat} {x y d w lo hi p q u v : Int} (h : TT t Z S x y d w lo hi p q u v) (hS : S = 104) : (x = y → True) ∧ (x = 0 → y = 0 → u = v) := by
  refine (h (fun S x y d w lo hi p q u v => TT t Z S x y d w lo hi p q u v ∧ (S = 104 → (x = y → True) ∧ (x = 0 → y = 0 → u = v))) ⟨?_, ?_, ?_, ?_, ?_, ?_, ?_, ?_, ?_, ?_, ?_, ?_, ?_, ?_, ?_, ?_, ?_, ?_, ?_, ?_, ?_, ?_, ?_, ?_, ?_, ?_, ?_, ?_, ?_, ?_, ?_, ?_, ?_, ?_, ?_, ?_, ?_, ?_, ?_, ?_, ?_, ?_, ?_, ?_, ?_, ?_, ?_, ?_, ?_, ?_⟩).2 hS
  · intro S lo hi p q x d u H0 H1
    exact ⟨TT.nil H0 H1, fun _ => ⟨fun _ => trivial, fun _ _ => rfl⟩⟩
  · intro S x nx d w1 l1 h1 p1 q1 u m y w2 l2 h2 p2 q2 v lo hi p q w H0 H1 H2 G3 G4 H5 H6 H7 H8
    obtain ⟨H3, ih3⟩ := G3
    obtain ⟨H4, ih4⟩ := G4
    exact ⟨TT.cons H0 H1 H2 H3 H4 H5 H6 H7 H8, fun _ => ⟨fun _ => trivial, fun e => absurd e H1⟩⟩
  · intro d x a b c l1 h1 u u1 l2 h2 u2 l3 h3 v lo hi H0 H1 H2 H3 H4 G5 G6 G7 H8 H9
    obtain ⟨H5, ih5⟩ := G5
    obtain ⟨H6, ih6⟩ := G6
    obtain ⟨H7, ih7⟩ := G7
    exact ⟨TT.item H0 H1 H2 H3 H4 H5 H6 H7 H8 H9, fun e => absurd e (by omega)⟩
  · intro x d lo hi u v G0
    obtain ⟨H0, ih0⟩ := G0
    exact ⟨TT.zone H0, fun e => absurd e (by omega)⟩
  · intro d x z a s n l1 h1 u m l2 h2 v lo hi H0 H1 H2 H3 H4 H5 H6 H7 G8 G9 H10 H11 H12 H13
    obtain ⟨H8, ih8⟩ := G8
    obtain ⟨H9, ih9⟩ := G9
    exact ⟨TT.zip H0 H1 H2 H3 H4 H5 H6 H7 H8 H9 H10 H11 H12 H13, fun e => absurd e (by omega)⟩
  · intro x a b lo hi d u H0 H1 H2 H3 H4
    exact ⟨TT.str H0 H1 H2 H3 H4, fun e => absurd e (by omega)⟩
  · intro x k lo hi d u H0 H1 H2
    exact ⟨TT.tru H0 H1 H2, fun e => absurd e (by omega)⟩
  · intro x d lo hi u v G0
    obtain ⟨H0, ih0⟩ := G0
    exact ⟨TT.psub H0, fun e => absurd e (by omega)⟩
  · intro x a d l1 h1 u v lo hi H0 H1 G2 H3
    obtain ⟨H2, ih2⟩ := G2
    exact ⟨TT.row H0 H1 H2 H3, fun e => absurd e (by omega)⟩
  · intro x lo hi d u H0 H1
    exact ⟨TT.name H0 H1, fun e => absurd e (by omega)⟩
  · intro x a d l1 h1 u v lo hi H0 H1 G2 H3
    obtain ⟨H2, ih2⟩ := G2
    exact ⟨TT.call H0 H1 H2 H3, fun e => absurd e (by omega)⟩
  · intro x a b d l1 h1 u m l2 h2 v lo hi H0 H1 H2 G3 G4 H5 H6
    obtain ⟨H3, ih3⟩ := G3
    obtain ⟨H4, ih4⟩ := G4
    exact ⟨TT.byt H0 H1 H2 H3 H4 H5 H6, fun e => absurd e (by omega)⟩
  · intro x k a d l1 h1 u v lo hi H0 H1 H2 H3 G4 H5
    obtain ⟨H4, ih4⟩ := G4
    exact ⟨TT.func H0 H1 H2 H3 H4 H5, fun e => absurd e (by omega)⟩
  · intro x a d l1 h1 u v lo hi H0 H1 G2 H3
    obtain ⟨H2, ih2⟩ := G2
    exact ⟨TT.word H0 H1 H2 H3, fun e => absurd e (by omega)⟩
  · intro x a lo hi d u H0 H1 H2 H3
    exact ⟨TT.pt H0 H1 H2 H3, fun e => absurd e (by omega)⟩
  · intro x a d l1 h1 u v lo hi H0 H1 G2 H3
    obtain ⟨H2, ih2⟩ := G2
    exact ⟨TT.ptby H0 H1 H2 H3, fun e => absurd e (by omega)⟩
  · intro x a nx d l1 h1 u m l2 h2 v lo hi H0 H1 H2 H3 G4 G5 H6 H7
    obtain ⟨H4, ih4⟩ := G4
    obtain ⟨H5, ih5⟩ := G5
    exact ⟨TT.gp H0 H1 H2 H3 H4 H5 H6 H7, fun e => absurd e (by omega)⟩
  · intro x a d l1 h1 u v lo hi H0 H1 G2 H3
    obtain ⟨H2, ih2⟩ := G2
    exact ⟨TT.apc H0 H1 H2 H3, fun e => absurd e (by omega)⟩
  · intro x a b d l1 h1 u m l2 h2 v lo hi H0 H1 H2 G3 G4 H5 H6
    obtain ⟨H3, ih3⟩ := G3
    obtain ⟨H4, ih4⟩ := G4
    exact ⟨TT.apb H0 H1 H2 H3 H4 H5 H6, fun e => absurd e (by omega)⟩
  · intro x a d l1 h1 u v lo hi H0 H1 G2 H3
    obtain ⟨H2, ih2⟩ := G2
    exact ⟨TT.aps H0 H1 H2 H3, fun e => absurd e (by omega)⟩
  · intro x a d l1 h1 u v lo hi H0 H1 G2 H3
    obtain ⟨H2, ih2⟩ := G2
    exact ⟨TT.giv H0 H1 H2 H3, fun e => absurd e (by omega)⟩
  · intro x a d l1 h1 u v lo hi H0 H1 G2 H3
    obtain ⟨H2, ih2⟩ := G2
    exact ⟨TT.nam H0 H1 H2 H3, fun e => absurd e (by omega)⟩
  · intro x lo hi d u H0 H1 H2
    exact ⟨TT.lk0 H0 H1 H2, fun e => absurd e (by omega)⟩
  · intro x a d l1 h1 u v lo hi H0 H1 G2 H3
    obtain ⟨H2, ih2⟩ := G2
    exact ⟨TT.lk H0 H1 H2 H3, fun e => absurd e (by omega)⟩
  · intro x a lo hi d u H0 H1 H2 H3 H4
    exact ⟨TT.op0 H0 H1 H2 H3 H4, fun e => absurd e (by omega)⟩
  · intro x k a d l1 h1 u v lo hi H0 H1 H2 H3 G4 H5
    obtain ⟨H4, ih4⟩ := G4
    exact ⟨TT.op H0 H1 H2 H3 H4 H5, fun e => absurd e (by omega)⟩
  · intro x a b lo hi d u H0 H1 H2 H3 H4 H5
    exact ⟨TT.pm H0 H1 H2 H3 H4 H5, fun e => absurd e (by omega)⟩
  · intro x a b d l1 h1 u v lo hi H0 H1 H2 H3 G4 H5
    obtain ⟨H4, ih4⟩ := G4
    exact ⟨TT.pmv H0 H1 H2 H3 H4 H5, fun e => absurd e (by omega)⟩
  · intro x a b c d l1 h1 u m d2 w2 l2 h2 v lo hi H0 H1 H2 H3 H4 G5 G6 H7 H8 H9
    obtain ⟨H5, ih5⟩ := G5
    obtain ⟨H6, ih6⟩ := G6
    exact ⟨TT.subn H0 H1 H2 H3 H4 H5 H6 H7 H8 H9, fun e => absurd e (by omega)⟩
  · intro x a d w l1 h1 p1 q1 u v lo hi p q H0 H1 G2 H3 H4
    obtain ⟨H2, ih2⟩ := G2
    exact ⟨TT.txt H0 H1 H2 H3 H4, fun e => absurd e (by omega)⟩
  · intro x k p q lo hi d u H0 H1 H2
    exact ⟨TT.byte H0 H1 H2, fun e => absurd e (by omega)⟩
  · intro x a b i d l1 h1 u m l2 h2 v lo hi p q w H0 H1 H2 H3 H4 G5 G6 H7 H8 H9
    obtain ⟨H5, ih5⟩ := G5
    obtain ⟨H6, ih6⟩ := G6
    exact ⟨TT.expr H0 H1 H2 H3 H4 H5 H6 H7 H8 H9, fun e => absurd e (by omega)⟩
  · intro x a d w1 l1 h1 p1 q1 u v lo hi p q w H0 H1 G2 H3 H4 H5
    obtain ⟨H2, ih2⟩ := G2
    exact ⟨TT.ife H0 H1 H2 H3 H4 H5, fun e => absurd e (by omega)⟩
  · intro x c i u lo hi p q d H0 H1 H2 H3 H4 H5 H6 H7
    exact ⟨TT.part H0 H1 H2 H3 H4 H5 H6 H7, fun e => absurd e (by omega)⟩
  · intro x c i u b d2 w2 l1 h1 p1 q1 v w lo hi p q d H0 H1 H2 H3 H4 H5 H6 G7 H8 H9 H10 H11
    obtain ⟨H7, ih7⟩ := G7
    exact ⟨TT.part2 H0 H1 H2 H3 H4 H5 H6 H7 H8 H9 H10 H11, fun e => absurd e (by omega)⟩
  · intro x c i lo hi p q d u H0 H1 H2 H3 H4 H5
    exact ⟨TT.sup H0 H1 H2 H3 H4 H5, fun e => absurd e (by omega)⟩
  · intro x a b d l1 h1 u m w2 l2 h2 p1 q1 v lo hi p q w H0 H1 H2 G3 G4 H5 H6 H7 H8
    obtain ⟨H3, ih3⟩ := G3
    obtain ⟨H4, ih4⟩ := G4
    exact ⟨TT.br H0 H1 H2 H3 H4 H5 H6 H7 H8, fun e => absurd e (by omega)⟩
  · intro lo hi d u H0
    exact ⟨TT.co0 H0, fun e => absurd e (by omega)⟩
  · intro x d lo hi u v G0
    obtain ⟨H0, ih0⟩ := G0
    exact ⟨TT.co1 H0, fun e => absurd e (by omega)⟩
  · intro x d lo hi u v G0
    obtain ⟨H0, ih0⟩ := G0
    exact ⟨TT.c45 H0, fun e => absurd e (by omega)⟩
  · intro x d lo hi u v G0
    obtain ⟨H0, ih0⟩ := G0
    exact ⟨TT.c56 H0, fun e => absurd e (by omega)⟩
  · intro x a nx d l1 h1 u m l2 h2 v lo hi H0 H1 H2 H3 G4 G5 H6 H7
    obtain ⟨H4, ih4⟩ := G4
    obtain ⟨H5, ih5⟩ := G5
    exact ⟨TT.eith H0 H1 H2 H3 H4 H5 H6 H7, fun e => absurd e (by omega)⟩
  · intro x a nx d l1 h1 u m l2 h2 v lo hi H0 H1 H2 H3 G4 G5 H6 H7
    obtain ⟨H4, ih4⟩ := G4
    obtain ⟨H5, ih5⟩ := G5
    exact ⟨TT.both H0 H1 H2 H3 H4 H5 H6 H7, fun e => absurd e (by omega)⟩
  · intro x a d l1 h1 u v lo hi H0 H1 G2 H3
    obtain ⟨H2, ih2⟩ := G2
    exact ⟨TT.not H0 H1 H2 H3, fun e => absurd e (by omega)⟩
  · intro x a d l1 h1 u v lo hi H0 H1 G2 H3
    obtain ⟨H2, ih2⟩ := G2
    exact ⟨TT.clk H0 H1 H2 H3, fun e => absurd e (by omega)⟩
  · intro x a d l1 h1 u v lo hi H0 H1 G2 H3
    obtain ⟨H2, ih2⟩ := G2
    exact ⟨TT.ask H0 H1 H2 H3, fun e => absurd e (by omega)⟩
  · intro x a b c d l1 h1 u v lo hi H0 H1 H2 H3 H4 G5 H6
    obtain ⟨H5, ih5⟩ := G5
    exact ⟨TT.ent H0 H1 H2 H3 H4 H5 H6, fun e => absurd e (by omega)⟩
  · intro x a b lo hi d u H0 H1 H2 H3 H4
    exact ⟨TT.vstr H0 H1 H2 H3 H4, fun e => absurd e (by omega)⟩
  · intro x k lo hi d u H0 H1 H2
    exact ⟨TT.vtru H0 H1 H2, fun e => absurd e (by omega)⟩
  · intro x d lo hi u v G0
    obtain ⟨H0, ih0⟩ := G0
    exact ⟨TT.vsub H0, fun e => absurd e (by omega)⟩
/-- an ITEM whose POINTs come -/
def MI (s : rS) (k : Nat) (it l d u hi v : Int) : Prop := tr s k 0 it = 41 ∧ tr s k 3 it = 0 ∧ tr s k 5 it = 0 ∧ (0 ≤ d ∧ d ≤ 20) ∧ 0 < it ∧ ∃ l1 m a, it < l1 ∧ TS s k 2 (tr s k 1 it) 0 d 0 l1 m 0 0 u a ∧ LQ s k 3 (tr s k 2 it) l d 0 m hi a v
theorem MI.init {s : rS} {k : Nat} {it x d lo hi u v : Int} (hk : rgk k) (h0 : tr s k 0 it = 41) (h2 : tr s k 2 it = 0) (h3 : tr s k 3 it = 0) (h5 : tr s k 5 it = 0) (e : TS s k 2 x 0 d 0 lo hi 0 0 u v) (hd : 0 ≤ d ∧ d ≤ 20 := by omega) (hi0 : 0 < it ∧ it < lo := by omega) : MI (sT s k 1 it x) k it 0 d u hi v := by
  have := e.le
  refine ⟨by rw [tr_ne hk (by omega)]; exact h0, by rw [tr_ne hk (by omega)]; exact h3, by rw [tr_ne hk (by omega)]; exact h5, hd, hi0.1, lo, hi, v, hi0.2, by rw [tr_eq hk]; exact e.tstA hk, ?_⟩
  rw [tr_ne hk (by omega), h2]; exact LQ.nil (Int.le_refl _)
theorem MI.rg {s t : rS} {k : Nat} {it l d u hi v c : Int} (hk : rgk k) (g : RG s t k c) (h : MI s k it l d u hi v) (h1 : hi ≤ rF s k 7 := by first | omega | (simp only [rF_sT]; omega)) (h3 : v ≤ rF s k 32 := by first | omega | (simp only [rF_sT]; omega)) (hc : c = 0 ∨ hi ≤ c := by omega) : MI t k it l d u hi v := by
  obtain ⟨a1, a2, a3, a4, a5, l1, m, a, b1, b2, b3⟩ := h
  have l2 := b2.le
  have l3 := b3.le
  have e1 : ∀ f, f < 6 → tr t k f it = tr s k f it := fun f hf => g.f hk hf (by omega) (by omega)
  exact ⟨(e1 0 (by decide)).trans a1, (e1 3 (by decide)).trans a2, (e1 5 (by decide)).trans a3, a4, a5, l1, m, a, b1, by rw [e1 1 (by decide)]; exact RG.tsA hk g b2, by rw [e1 2 (by decide)]; exact RG.lqA hk g b3⟩
theorem MI.p0 {s : rS} {k : Nat} {l it x d u m hi a v : Int} (hk : rgk k) (h : MI s k it l d u m a) (e : TS s k 3 x 0 d 0 m hi 0 0 a v) (h5 : tr s k 5 x = 0) (hl : l = 0 := by omega) (hx : m ≤ x ∧ x < hi := by omega) : MI (sT s k 2 it x) k it x d u hi v := by
  subst hl
  obtain ⟨a1, a2, a3, a4, a5, l1, m1, b, b1, b2, b3⟩ := h
  have l2 := b2.le
  have l3 := b3.le
  have l4 := e.le
  exact ⟨by rw [tr_ne hk (by omega)]; exact a1, by rw [tr_ne hk (by omega)]; exact a2, by rw [tr_ne hk (by omega)]; exact a3, a4, a5, l1, m1, b, b1, by rw [tr_ne hk (by omega)]; exact b2.tstA hk, by rw [tr_eq hk]; exact (b3.p0 hk e h5).cst⟩
theorem MI.p1 {s : rS} {k : Nat} {it l x d u m hi a v : Int} (hk : rgk k) (h : MI s k it l d u m a) (e : TS s k 3 x 0 d 0 m hi 0 0 a v) (h5 : tr s k 5 x = 0) (hl : l ≠ 0 := by omega) (hx : m ≤ x ∧ x < hi := by omega) : MI (sT s k 5 l x) k it x d u hi v := by
  obtain ⟨a1, a2, a3, a4, a5, l1, m1, b, b1, b2, b3⟩ := h
  have l2 := b2.le
  have l3 := b3.le
  have l4 := e.le
  have l5 := b3.rg
  exact ⟨by rw [tr_ne hk (by omega)]; exact a1, by rw [tr_ne hk (by omega)]; exact a2, by rw [tr_ne hk (by omega)]; exact a3, a4, a5, l1, m1, b, b1, by rw [tr_ne hk (by omega)]; exact b2.tstA hk, by rw [tr_ne hk (by omega)]; exact (b3.p1 hk e h5).cst⟩
theorem MI.done {s : rS} {k : Nat} {it l d u hi v : Int} (hk : rgk k) (h : MI s k it l d u hi v) : TS s k 1 it 0 d 1 it hi 0 0 u v := by
  obtain ⟨a1, a2, a3, a4, a5, l1, m1, b, b1, b2, b3⟩ := h
  have l2 := b2.le
  have l3 := b3.le
  exact TS.item hk a1 rfl rfl a2 b2 (b3.done (by decide)) (TT.nil (x := 0) (lo := hi) (hi := hi) (by decide) (by omega))
/-- an ITEM whose GROUPs come -/
def IG (s : rS) (k : Nat) (it l d lo u hi v : Int) : Prop := tr s k 0 it = 41 ∧ tr s k 5 it = 0 ∧ lo ≤ it ∧ 0 < lo ∧ (0 ≤ d ∧ d ≤ 20) ∧ ∃ l1 h1 u1 l2 h2 u2 m, it < l1 ∧ h1 ≤ l2 ∧ h2 ≤ m ∧ TS s k 2 (tr s k 1 it) 0 d 0 l1 h1 0 0 u u1 ∧ TS s k 103 (tr s k 2 it) 0 d 0 l2 h2 0 0 u1 u2 ∧ LQ s k 4 (tr s k 3 it) l d 0 m hi u2 v
theorem IG.of {s : rS} {k : Nat} {it d lo hi u v : Int} (e : TS s k 1 it 0 d 1 lo hi 0 0 u v) (h3 : tr s k 3 it = 0) (h5 : tr s k 5 it = 0) (hlo : 0 < lo := by omega) : IG s k it 0 d lo u hi v := by
  obtain ⟨a, b, l1, h1, l2, h2, l3, h3', u1, u2, e1, e2, e3, c⟩ := TT.inv1 e rfl
  have := (TT.nil0 e3 rfl).2 h3 rfl
  subst this
  exact ⟨b, h5, by omega, hlo, a, l1, h1, u1, l2, h2, u2, hi, by omega, by omega, by omega, e1, e2, by rw [h3]; exact LQ.nil (Int.le_refl _)⟩
theorem IG.rg {s t : rS} {k : Nat} {it l d lo u hi v c : Int} (hk : rgk k) (g : RG s t k c) (h : IG s k it l d lo u hi v) (h1 : hi ≤ rF s k 7 := by first | omega | (simp only [rF_sT]; omega)) (h3 : v ≤ rF s k 32 := by first | omega | (simp only [rF_sT]; omega)) (hc : c = 0 ∨ hi ≤ c := by omega) : IG t k it l d lo u hi v := by
  obtain ⟨a1, a2, a3, a4, a5, l1, h1', u1, l2, h2, u2, m, c1, c2, c3, b1, b2, b3⟩ := h
  have l3 := b1.le
  have l4 := b2.le
  have l5 := b3.le
  have e1 : ∀ f, f < 6 → tr t k f it = tr s k f it := fun f hf => g.f hk hf (by omega) (by omega)
  exact ⟨(e1 0 (by decide)).trans a1, (e1 5 (by decide)).trans a2, a3, a4, a5, l1, h1', u1, l2, h2, u2, m, c1, c2, c3, by rw [e1 1 (by decide)]; exact RG.tsA hk g b1, by rw [e1 2 (by decide)]; exact RG.tsA hk g b2, by rw [e1 3 (by decide)]; exact RG.lqA hk g b3⟩
theorem IG.p0 {s : rS} {k : Nat} {l it x d lo u m hi a v : Int} (hk : rgk k) (h : IG s k it l d lo u m a) (e : TS s k 4 x 0 d 0 m hi 0 0 a v) (h5 : tr s k 5 x = 0) (hl : l = 0 := by omega) (hx : m ≤ x ∧ x < hi := by omega) : IG (sT s k 3 it x) k it x d lo u hi v := by
  subst hl
  obtain ⟨a1, a2, a3, a4, a5, l1, h1', u1, l2, h2, u2, m', c1, c2, c3, b1, b2, b3⟩ := h
  have l3 := b1.le
  have l4 := b2.le
  have l5 := b3.le
  have l6 := e.le
  exact ⟨by rw [tr_ne hk (by omega)]; exact a1, by rw [tr_ne hk (by omega)]; exact a2, a3, a4, a5, l1, h1', u1, l2, h2, u2, m', c1, c2, c3, by rw [tr_ne hk (by omega)]; exact b1.tstA hk, by rw [tr_ne hk (by omega)]; exact b2.tstA hk, by rw [tr_eq hk]; exact (b3.p0 hk e h5).cst⟩
theorem IG.p1 {s : rS} {k : Nat} {it l x d lo u m hi a v : Int} (hk : rgk k) (h : IG s k it l d lo u m a) (e : TS s k 4 x 0 d 0 m hi 0 0 a v) (h5 : tr s k 5 x = 0) (hl : l ≠ 0 := by omega) (hx : m ≤ x ∧ x < hi := by omega) : IG (sT s k 5 l x) k it x d lo u hi v := by
  obtain ⟨a1, a2, a3, a4, a5, l1, h1', u1, l2, h2, u2, m', c1, c2, c3, b1, b2, b3⟩ := h
  have l3 := b1.le
  have l4 := b2.le
  have l5 := b3.le
  have l6 := e.le
  have l7 := b3.rg
  exact ⟨by rw [tr_ne hk (by omega)]; exact a1, by rw [tr_ne hk (by omega)]; exact a2, a3, a4, a5, l1, h1', u1, l2, h2, u2, m', c1, c2, c3, by rw [tr_ne hk (by omega)]; exact b1.tstA hk, by rw [tr_ne hk (by omega)]; exact b2.tstA hk, by rw [tr_ne hk (by omega)]; exact (b3.p1 hk e h5).cst⟩
theorem IG.done {s : rS} {k : Nat} {it l d lo u hi v : Int} (hk : rgk k) (h : IG s k it l d lo u hi v) : TS s k 1 it 0 d 1 lo hi 0 0 u v := by
  obtain ⟨a1, a2, a3, a4, a5, l1, h1', u1, l2, h2, u2, m', c1, c2, c3, b1, b2, b3⟩ := h
  have l3 := b1.le
  have l4 := b2.le
  have l5 := b3.le
  exact TS.item hk a1 rfl rfl rfl b1 b2 (b3.done (by decide))
/-- a node over a list whose first was there ahead of it: GROUP, EITHER, BOTH -/
def HQ (s : rS) (k S : Nat) (q g one d lo u hi v : Int) : Prop := tr s k 0 g = q ∧ tr s k 5 g = 0 ∧ 0 < lo ∧ ∃ f l1 h1 a m, tr s k 1 g = f ∧ TS s k S f 0 d 0 l1 h1 0 0 u a ∧ lo ≤ l1 ∧ l1 ≤ f ∧ f < h1 ∧ h1 ≤ g ∧ g < m ∧ (one = f ∧ tr s k 5 f = 0 ∧ m ≤ hi ∧ a = v ∨ one ≠ f ∧ one ≠ 0 ∧ m ≤ one ∧ LQ s k S (tr s k 5 f) one d 0 m hi a v)
theorem HQ.init {s : rS} {k S : Nat} {q g f d lo h1 u hi v : Int} (h0 : tr s k 0 g = q) (h1' : tr s k 1 g = f) (h5 : tr s k 5 g = 0) (e : TS s k S f 0 d 0 lo h1 0 0 u v) (f5 : tr s k 5 f = 0) (hx : 0 < lo ∧ lo ≤ f ∧ f < h1 ∧ h1 ≤ g ∧ g < hi := by omega) : HQ s k S q g f d lo u hi v :=
  ⟨h0, h5, hx.1, f, lo, h1, v, hi, h1', e, Int.le_refl _, hx.2.1, hx.2.2.1, hx.2.2.2.1, hx.2.2.2.2, Or.inl ⟨rfl, f5, Int.le_refl _, rfl⟩⟩
theorem HQ.rg {s t : rS} {k S : Nat} {q g one d lo u hi v c : Int} (hk : rgk k) (r : RG s t k c) (h : HQ s k S q g one d lo u hi v) (h1 : hi ≤ rF s k 7 := by first | omega | (simp only [rF_sT]; omega)) (h3 : v ≤ rF s k 32 := by first | omega | (simp only [rF_sT]; omega)) (hc : c = 0 ∨ hi ≤ c := by omega) : HQ t k S q g one d lo u hi v := by
  obtain ⟨a1, a2, a3, f, l1, h1', a, m, b1, b2, b3, b4, b5, b6, b7, b8⟩ := h
  have l2 := b2.le
  have hm : m ≤ hi ∧ a ≤ v := by rcases b8 with x | ⟨_, _, _, x⟩; omega; have := x.le; omega
  have e1 : ∀ f i, f < 6 → i ≤ g → tr t k f i = tr s k f i := fun f i hf _ => r.f hk hf (by omega) (by omega)
  refine ⟨(e1 _ _ (by decide) (by omega)).trans a1, (e1 _ _ (by decide) (by omega)).trans a2, a3, f, l1, h1', a, m, (e1 _ _ (by decide) (by omega)).trans b1, RG.tsA hk r b2, b3, b4, b5, b6, b7, ?_⟩
  rcases b8 with ⟨x1, x2, x3, x4⟩ | ⟨x1, x2, x3, x4⟩
  · exact Or.inl ⟨x1, (e1 _ _ (by decide) (by omega)).trans x2, x3, x4⟩
  · exact Or.inr ⟨x1, x2, x3, by rw [e1 5 f (by decide) (by omega)]; exact RG.lqA hk r x4⟩
theorem HQ.push {s : rS} {k S : Nat} {q g one x d lo u m hi a v : Int} (hk : rgk k) (h : HQ s k S q g one d lo u m a) (e : TS s k S x 0 d 0 m hi 0 0 a v) (h5 : tr s k 5 x = 0) (hS : S < 100 := by decide) (hx : m ≤ x ∧ x < hi := by omega) : HQ (sT s k 5 one x) k S q g x d lo u hi v := by
  obtain ⟨a1, a2, a3, f, l1, h1', b, m', b1, b2, b3, b4, b5, b6, b7, b8⟩ := h
  have l2 := b2.le
  have l4 := e.le
  rcases b8 with ⟨rfl, x2, x3, rfl⟩ | ⟨x1, x2, x3, x4⟩
  · refine ⟨by rw [tr_ne hk (by omega)]; exact a1, by rw [tr_ne hk (by omega)]; exact a2, a3, one, l1, h1', b, m', by rw [tr_ne hk (by omega)]; exact b1, TS.tst5 hk hS b2, b3, b4, b5, b6, b7, Or.inr ⟨by omega, by omega, by omega, ?_⟩⟩
    rw [tr_eq hk]
    exact ((LQ.nil (d := d) (by omega : m' ≤ m)).p0 hk e h5 hS).cst
  · have l5 := x4.le
    refine ⟨by rw [tr_ne hk (by omega)]; exact a1, by rw [tr_ne hk (by omega)]; exact a2, a3, f, l1, h1', b, m', by rw [tr_ne hk (by omega)]; exact b1, b2.tstA hk, b3, b4, b5, b6, b7, Or.inr ⟨by omega, by omega, by omega, ?_⟩⟩
    rw [tr_ne hk (by omega)]
    exact (x4.p1 hk e h5 x2 hS).cst
theorem HQ.lst {s : rS} {k S : Nat} {q g one d lo u hi v : Int} (h : HQ s k S q g one d lo u hi v) (hS : S < 100) : ∃ f l1 h1 a m, tr s k 1 g = f ∧ TS s k S f 0 d 0 l1 h1 0 0 u a ∧ lo ≤ l1 ∧ l1 ≤ f ∧ f < h1 ∧ h1 ≤ g ∧ g < m ∧ m ≤ hi ∧ a ≤ v ∧ TS s k (100 + S) (tr s k 5 f) 0 d 0 m hi 0 0 a v := by
  obtain ⟨a1, a2, a3, f, l1, h1', b, m', b1, b2, b3, b4, b5, b6, b7, b8⟩ := h
  rcases b8 with ⟨x1, x2, x3, x4⟩ | ⟨x1, x2, x3, x4⟩
  · exact ⟨f, l1, h1', b, m', b1, b2, b3, b4, b5, b6, b7, x3, by omega, by rw [x2, x4]; exact TT.nil (by omega) (by omega)⟩
  · have := x4.le; exact ⟨f, l1, h1', b, m', b1, b2, b3, b4, b5, b6, b7, by omega, by omega, x4.done hS⟩
theorem HQ.gp {s : rS} {k : Nat} {g one d lo u hi v : Int} (hk : rgk k) (h : HQ s k 5 44 g one d lo u hi v) : TS s k 4 g 0 d 0 lo hi 0 0 u v := by
  have h0 := h.1
  have h1 := h.2.2.1
  obtain ⟨f, l1, h1', a, m, b1, b2, b3, b4, b5, b6, b7, b8, b9, e⟩ := h.lst (by decide)
  have l2 := b2.le
  exact TS.gp hk h0 b1 rfl b2 e
theorem HQ.eith {s : rS} {k : Nat} {g one d lo u hi v : Int} (hk : rgk k) (h : HQ s k 15 55 g one d lo u hi v) : TS s k 14 g 0 d 0 lo hi 0 0 u v := by
  have h0 := h.1
  have h1 := h.2.2.1
  obtain ⟨f, l1, h1', a, m, b1, b2, b3, b4, b5, b6, b7, b8, b9, e⟩ := h.lst (by decide)
  have l2 := b2.le
  exact TS.eith hk h0 b1 rfl b2 e
theorem HQ.both {s : rS} {k : Nat} {g one d lo u hi v : Int} (hk : rgk k) (h : HQ s k 16 56 g one d lo u hi v) : TS s k 15 g 0 d 0 lo hi 0 0 u v := by
  have h0 := h.1
  have h1 := h.2.2.1
  obtain ⟨f, l1, h1', a, m, b1, b2, b3, b4, b5, b6, b7, b8, b9, e⟩ := h.lst (by decide)
  have l2 := b2.le
  exact TS.both hk h0 b1 rfl b2 e

theorem MI.cst {s : rS} {k : Nat} {it l d u hi v d' u' hi' v' : Int} (h : MI s k it l d u hi v) (h1 : d = d' := by omega) (h2 : u = u' := by omega) (h3 : hi ≤ hi' := by omega) (h4 : v = v' := by omega) : MI s k it l d' u' hi' v' := by
  subst h1 h2 h4
  obtain ⟨a1, a2, a3, a4, a5, l1, m1, b, b1, b2, b3⟩ := h
  exact ⟨a1, a2, a3, a4, a5, l1, m1, b, b1, b2, b3.cst⟩
theorem IG.cst {s : rS} {k : Nat} {it l d lo u hi v d' lo' u' hi' v' : Int} (h : IG s k it l d lo u hi v) (h1 : d = d' := by omega) (h2 : u = u' := by omega) (h3 : hi ≤ hi' := by omega) (h4 : v = v' := by omega) (h5 : lo' = lo := by omega) : IG s k it l d' lo' u' hi' v' := by
  subst h1 h2 h4 h5
  obtain ⟨a1, a2, a3, a4, a5, l1, h1', u1, l2, h2, u2, m', c1, c2, c3, b1, b2, b3⟩ := h
  exact ⟨a1, a2, a3, a4, a5, l1, h1', u1, l2, h2, u2, m', c1, c2, c3, b1, b2, b3.cst⟩
theorem HQ.cst {s : rS} {k S : Nat} {q g one d lo u hi v d' lo' u' hi' v' : Int} (h : HQ s k S q g one d lo u hi v) (h1 : d = d' := by omega) (h2 : u = u' := by omega) (h3 : hi ≤ hi' := by omega) (h4 : v = v' := by omega) (h5 : lo' = lo := by omega) : HQ s k S q g one d' lo' u' hi' v' := by
  subst h1 h2 h4 h5
  obtain ⟨a1, a2, a3, f, l1, h1', b, m', b1, b2, b3, b4, b5, b6, b7, b8⟩ := h
  refine ⟨a1, a2, a3, f, l1, h1', b, m', b1, b2, b3, b4, b5, b6, b7, ?_⟩
  rcases b8 with ⟨x1, x2, x3, x4⟩ | ⟨x1, x2, x3, x4⟩
  · exact Or.inl ⟨x1, x2, by omega, x4⟩
  · exact Or.inr ⟨x1, x2, x3, x4.cst⟩

theorem LQ.tstA {s : rS} {k S f : Nat} {h l d w lo hi u v i z : Int} (hk : rgk k) (q : LQ s k S h l d w lo hi u v) (hf : f < 6 := by decide) (h1 : (i < lo ∨ hi ≤ i) ∧ 0 < i := by omega) : LQ (sT s k f i z) k S h l d w lo hi u v := q.tst hk hf h1.1 h1.2
theorem MI.tstA {s : rS} {k f : Nat} {it l d u hi v i z : Int} (hk : rgk k) (h : MI s k it l d u hi v) (hf : f < 6 := by decide) (h1 : hi ≤ i := by omega) : MI (sT s k f i z) k it l d u hi v := by
  obtain ⟨a1, a2, a3, a4, a5, l1, m, a, b1, b2, b3⟩ := h
  have l2 := b2.le
  have l3 := b3.le
  exact ⟨by rw [tr_ne hk (by omega) hf]; exact a1, by rw [tr_ne hk (by omega) hf]; exact a2, by rw [tr_ne hk (by omega) hf]; exact a3, a4, a5, l1, m, a, b1, by rw [tr_ne hk (by omega) hf]; exact b2.tstA hk hf, by rw [tr_ne hk (by omega) hf]; exact b3.tstA hk hf⟩
theorem IG.tstA {s : rS} {k f : Nat} {it l d lo u hi v i z : Int} (hk : rgk k) (h : IG s k it l d lo u hi v) (hf : f < 6 := by decide) (h1 : hi ≤ i := by omega) : IG (sT s k f i z) k it l d lo u hi v := by
  obtain ⟨a1, a2, a3, a4, a5, l1, h1', u1, l2, h2, u2, m', c1, c2, c3, b1, b2, b3⟩ := h
  have l3 := b1.le
  have l4 := b2.le
  have l5 := b3.le
  exact ⟨by rw [tr_ne hk (by omega) hf]; exact a1, by rw [tr_ne hk (by omega) hf]; exact a2, a3, a4, a5, l1, h1', u1, l2, h2, u2, m', c1, c2, c3, by rw [tr_ne hk (by omega) hf]; exact b1.tstA hk hf, by rw [tr_ne hk (by omega) hf]; exact b2.tstA hk hf, by rw [tr_ne hk (by omega) hf]; exact b3.tstA hk hf⟩
theorem HQ.tstA {s : rS} {k S f : Nat} {q g one d lo u hi v i z : Int} (hk : rgk k) (h : HQ s k S q g one d lo u hi v) (hf : f < 6 := by decide) (h1 : hi ≤ i := by omega) : HQ (sT s k f i z) k S q g one d lo u hi v := by
  obtain ⟨a1, a2, a3, f', l1, h1', b, m', b1, b2, b3, b4, b5, b6, b7, b8⟩ := h
  have l2 := b2.le
  have hm : m' ≤ hi ∧ b ≤ v := by rcases b8 with x | ⟨_, _, _, x⟩; omega; have := x.le; omega
  refine ⟨by rw [tr_ne hk (by omega) hf]; exact a1, by rw [tr_ne hk (by omega) hf]; exact a2, a3, f', l1, h1', b, m', by rw [tr_ne hk (by omega) hf]; exact b1, b2.tstA hk hf, b3, b4, b5, b6, b7, ?_⟩
  rcases b8 with ⟨x1, x2, x3, x4⟩ | ⟨x1, x2, x3, x4⟩
  · exact Or.inl ⟨x1, by rw [tr_ne hk (by omega) hf]; exact x2, x3, x4⟩
  · exact Or.inr ⟨x1, x2, x3, by rw [tr_ne hk (by omega) hf]; exact x4.tstA hk hf⟩

theorem TS.nl {σ : rS} {k S : Nat} {d lo hi u : Int} (hS : 100 ≤ S := by decide) (h : lo ≤ hi := by omega) : TS σ k S 0 0 d 0 lo hi 0 0 u u := TT.nil hS (by omega)
/-- a list that hangs on field f of x -/
def OQ (s : rS) (k S f : Nat) (x l d w lo u hi v : Int) : Prop := LQ s k S (tr s k f x) l d w lo hi u v ∧ 0 < x ∧ x < lo
theorem OQ.init {s : rS} {k S f : Nat} {x d lo u hi : Int} (h : tr s k f x = 0) (hx : 0 < x ∧ x < lo ∧ lo ≤ hi := by omega) : OQ s k S f x 0 d 0 lo u hi u := ⟨by rw [h]; exact LQ.nil hx.2.2, hx.1, hx.2.1⟩
theorem OQ.rg {s t : rS} {k S f : Nat} {x l d w lo u hi v c : Int} (hk : rgk k) (g : RG s t k c) (h : OQ s k S f x l d w lo u hi v) (hf : f < 6 := by decide) (h1 : hi ≤ rF s k 7 := by first | omega | (simp only [rF_sT]; omega)) (h3 : v ≤ rF s k 32 := by first | omega | (simp only [rF_sT]; omega)) (hc : c = 0 ∨ (c < lo ∧ c ≠ x ∧ 0 ≤ c) ∨ hi ≤ c := by omega) : OQ t k S f x l d w lo u hi v := by
  obtain ⟨a, b, e⟩ := h
  have := a.le
  exact ⟨by rw [RG.fA hk g (i := x) hf (by omega) (by omega)]; exact RG.lqA hk g a, b, e⟩
theorem OQ.tstA {s : rS} {k S f f' : Nat} {x l d w lo u hi v i z : Int} (hk : rgk k) (h : OQ s k S f x l d w lo u hi v) (hf : f' < 6 := by decide) (h1 : hi ≤ i ∨ (0 < i ∧ i < lo ∧ i ≠ x) := by omega) : OQ (sT s k f' i z) k S f x l d w lo u hi v := by
  obtain ⟨a, b, e⟩ := h
  have := a.le
  exact ⟨by rw [tr_ne hk (by omega) hf]; exact a.tstA hk hf, b, e⟩
theorem OQ.p0 {s : rS} {k S f : Nat} {x l y d w w2 lo u m hi a v : Int} (hk : rgk k) (h : OQ s k S f x l d w lo u m a) (e : TS s k S y 0 d w2 m hi 0 0 a v) (h5 : tr s k 5 y = 0) (hS : S < 100 := by decide) (hf : f < 6 := by decide) (hl : l = 0 := by omega) (hx : m ≤ y ∧ y < hi := by omega) : OQ (sT s k f x y) k S f x y d (w + w2) lo u hi v := by
  obtain ⟨a1, b, c⟩ := h
  have := a1.le
  exact ⟨by rw [tr_eq hk hf]; exact a1.p0 hk e h5 hS hf, b, c⟩
theorem OQ.p1 {s : rS} {k S f : Nat} {x l y d w w2 lo u m hi a v : Int} (hk : rgk k) (h : OQ s k S f x l d w lo u m a) (e : TS s k S y 0 d w2 m hi 0 0 a v) (h5 : tr s k 5 y = 0) (hS : S < 100 := by decide) (hf : f < 6 := by decide) (hl : l ≠ 0 := by omega) (hx : m ≤ y ∧ y < hi := by omega) : OQ (sT s k 5 l y) k S f x y d (w + w2) lo u hi v := by
  obtain ⟨a1, b, c⟩ := h
  have := a1.le
  have l5 := a1.rg
  exact ⟨by rw [tr_ne hk (by omega)]; exact a1.p1 hk e h5 hl hS, b, c⟩
theorem OQ.done {s : rS} {k S f : Nat} {x l d w lo u hi v : Int} (h : OQ s k S f x l d w lo u hi v) (hS : S < 100 := by decide) : TS s k (100 + S) (tr s k f x) 0 d w lo hi 0 0 u v := h.1.done hS
theorem OQ.cst {s : rS} {k S f : Nat} {x l d w lo u hi v d' w' lo' u' hi' v' : Int} (h : OQ s k S f x l d w lo u hi v) (h1 : d = d' := by omega) (h2 : u = u' := by omega) (h3 : hi ≤ hi' := by omega) (h4 : v = v' := by omega) (h5 : lo = lo' := by omega) (h6 : w = w' := by omega) : OQ s k S f x l d' w' lo' u' hi' v' := by
  subst h1 h2 h4 h5 h6
  exact ⟨h.1.cst, h.2.1, h.2.2⟩

theorem TT.lst {t : Nat → Int → Int} {Z : Int → Int → Prop} {S : Nat} {x y d w lo hi p q u v : Int} (h : TT t Z S x y d w lo hi p q u v) : S ≥ 100 → x = y ∨ (x ≠ 0 ∧ ∃ w1 w2 l1 h1 p1 q1 l2 h2 p2 q2 m, TT t Z (S - 100) x 0 d w1 l1 h1 p1 q1 u m ∧ TT t Z S (t 5 x) y d w2 l2 h2 p2 q2 m v ∧ (lo ≤ l1 ∧ l1 ≤ h1 ∧ h1 ≤ l2 ∧ l2 ≤ h2 ∧ h2 ≤ hi ∧ p ≤ p1 ∧ p1 ≤ q1 ∧ q1 ≤ p2 ∧ p2 ≤ q2 ∧ q2 ≤ q) ∧ (l1 ≤ x ∧ x < h1 ∨ p1 ≤ x ∧ x < q1) ∧ (w = w1 + w2 ∧ 0 ≤ w1 ∧ 0 ≤ w2) ∧ u ≤ m ∧ m ≤ v) := by
  refine (h (fun S x y d w lo hi p q u v => TT t Z S x y d w lo hi p q u v ∧ (S ≥ 100 → x = y ∨ (x ≠ 0 ∧ ∃ w1 w2 l1 h1 p1 q1 l2 h2 p2 q2 m, TT t Z (S - 100) x 0 d w1 l1 h1 p1 q1 u m ∧ TT t Z S (t 5 x) y d w2 l2 h2 p2 q2 m v ∧ (lo ≤ l1 ∧ l1 ≤ h1 ∧ h1 ≤ l2 ∧ l2 ≤ h2 ∧ h2 ≤ hi ∧ p ≤ p1 ∧ p1 ≤ q1 ∧ q1 ≤ p2 ∧ p2 ≤ q2 ∧ q2 ≤ q) ∧ (l1 ≤ x ∧ x < h1 ∨ p1 ≤ x ∧ x < q1) ∧ (w = w1 + w2 ∧ 0 ≤ w1 ∧ 0 ≤ w2) ∧ u ≤ m ∧ m ≤ v))) ⟨?_, ?_, ?_, ?_, ?_, ?_, ?_, ?_, ?_, ?_, ?_, ?_, ?_, ?_, ?_, ?_, ?_, ?_, ?_, ?_, ?_, ?_, ?_, ?_, ?_, ?_, ?_, ?_, ?_, ?_, ?_, ?_, ?_, ?_, ?_, ?_, ?_, ?_, ?_, ?_, ?_, ?_, ?_, ?_, ?_, ?_, ?_, ?_, ?_, ?_⟩).2
  · intro S lo hi p q x d u H0 H1
    exact ⟨TT.nil H0 H1, fun _ => Or.inl rfl⟩
  · intro S x nx d w1 l1 h1 p1 q1 u m y w2 l2 h2 p2 q2 v lo hi p q w H0 H1 H2 G3 G4 H5 H6 H7 H8
    obtain ⟨H3, ih3⟩ := G3
    obtain ⟨H4, ih4⟩ := G4
    exact ⟨TT.cons H0 H1 H2 H3 H4 H5 H6 H7 H8, fun _ => Or.inr ⟨H1, w1, w2, l1, h1, p1, q1, l2, h2, p2, q2, m, H3, by rw [H2]; exact H4, H5, H6, H7, H8⟩⟩
  · intro d x a b c l1 h1 u u1 l2 h2 u2 l3 h3 v lo hi H0 H1 H2 H3 H4 G5 G6 G7 H8 H9
    obtain ⟨H5, ih5⟩ := G5
    obtain ⟨H6, ih6⟩ := G6
    obtain ⟨H7, ih7⟩ := G7
    exact ⟨TT.item H0 H1 H2 H3 H4 H5 H6 H7 H8 H9, fun e => absurd e (by omega)⟩
  · intro x d lo hi u v G0
    obtain ⟨H0, ih0⟩ := G0
    exact ⟨TT.zone H0, fun e => absurd e (by omega)⟩
  · intro d x z a s n l1 h1 u m l2 h2 v lo hi H0 H1 H2 H3 H4 H5 H6 H7 G8 G9 H10 H11 H12 H13
    obtain ⟨H8, ih8⟩ := G8
    obtain ⟨H9, ih9⟩ := G9
    exact ⟨TT.zip H0 H1 H2 H3 H4 H5 H6 H7 H8 H9 H10 H11 H12 H13, fun e => absurd e (by omega)⟩
  · intro x a b lo hi d u H0 H1 H2 H3 H4
    exact ⟨TT.str H0 H1 H2 H3 H4, fun e => absurd e (by omega)⟩
  · intro x k lo hi d u H0 H1 H2
    exact ⟨TT.tru H0 H1 H2, fun e => absurd e (by omega)⟩
  · intro x d lo hi u v G0
    obtain ⟨H0, ih0⟩ := G0
    exact ⟨TT.psub H0, fun e => absurd e (by omega)⟩
  · intro x a d l1 h1 u v lo hi H0 H1 G2 H3
    obtain ⟨H2, ih2⟩ := G2
    exact ⟨TT.row H0 H1 H2 H3, fun e => absurd e (by omega)⟩
  · intro x lo hi d u H0 H1
    exact ⟨TT.name H0 H1, fun e => absurd e (by omega)⟩
  · intro x a d l1 h1 u v lo hi H0 H1 G2 H3
    obtain ⟨H2, ih2⟩ := G2
    exact ⟨TT.call H0 H1 H2 H3, fun e => absurd e (by omega)⟩
  · intro x a b d l1 h1 u m l2 h2 v lo hi H0 H1 H2 G3 G4 H5 H6
    obtain ⟨H3, ih3⟩ := G3
    obtain ⟨H4, ih4⟩ := G4
    exact ⟨TT.byt H0 H1 H2 H3 H4 H5 H6, fun e => absurd e (by omega)⟩
  · intro x k a d l1 h1 u v lo hi H0 H1 H2 H3 G4 H5
    obtain ⟨H4, ih4⟩ := G4
    exact ⟨TT.func H0 H1 H2 H3 H4 H5, fun e => absurd e (by omega)⟩
  · intro x a d l1 h1 u v lo hi H0 H1 G2 H3
    obtain ⟨H2, ih2⟩ := G2
    exact ⟨TT.word H0 H1 H2 H3, fun e => absurd e (by omega)⟩
  · intro x a lo hi d u H0 H1 H2 H3
    exact ⟨TT.pt H0 H1 H2 H3, fun e => absurd e (by omega)⟩
  · intro x a d l1 h1 u v lo hi H0 H1 G2 H3
    obtain ⟨H2, ih2⟩ := G2
    exact ⟨TT.ptby H0 H1 H2 H3, fun e => absurd e (by omega)⟩
  · intro x a nx d l1 h1 u m l2 h2 v lo hi H0 H1 H2 H3 G4 G5 H6 H7
    obtain ⟨H4, ih4⟩ := G4
    obtain ⟨H5, ih5⟩ := G5
    exact ⟨TT.gp H0 H1 H2 H3 H4 H5 H6 H7, fun e => absurd e (by omega)⟩
  · intro x a d l1 h1 u v lo hi H0 H1 G2 H3
    obtain ⟨H2, ih2⟩ := G2
    exact ⟨TT.apc H0 H1 H2 H3, fun e => absurd e (by omega)⟩
  · intro x a b d l1 h1 u m l2 h2 v lo hi H0 H1 H2 G3 G4 H5 H6
    obtain ⟨H3, ih3⟩ := G3
    obtain ⟨H4, ih4⟩ := G4
    exact ⟨TT.apb H0 H1 H2 H3 H4 H5 H6, fun e => absurd e (by omega)⟩
  · intro x a d l1 h1 u v lo hi H0 H1 G2 H3
    obtain ⟨H2, ih2⟩ := G2
    exact ⟨TT.aps H0 H1 H2 H3, fun e => absurd e (by omega)⟩
  · intro x a d l1 h1 u v lo hi H0 H1 G2 H3
    obtain ⟨H2, ih2⟩ := G2
    exact ⟨TT.giv H0 H1 H2 H3, fun e => absurd e (by omega)⟩
  · intro x a d l1 h1 u v lo hi H0 H1 G2 H3
    obtain ⟨H2, ih2⟩ := G2
    exact ⟨TT.nam H0 H1 H2 H3, fun e => absurd e (by omega)⟩
  · intro x lo hi d u H0 H1 H2
    exact ⟨TT.lk0 H0 H1 H2, fun e => absurd e (by omega)⟩
  · intro x a d l1 h1 u v lo hi H0 H1 G2 H3
    obtain ⟨H2, ih2⟩ := G2
    exact ⟨TT.lk H0 H1 H2 H3, fun e => absurd e (by omega)⟩
  · intro x a lo hi d u H0 H1 H2 H3 H4
    exact ⟨TT.op0 H0 H1 H2 H3 H4, fun e => absurd e (by omega)⟩
  · intro x k a d l1 h1 u v lo hi H0 H1 H2 H3 G4 H5
    obtain ⟨H4, ih4⟩ := G4
    exact ⟨TT.op H0 H1 H2 H3 H4 H5, fun e => absurd e (by omega)⟩
  · intro x a b lo hi d u H0 H1 H2 H3 H4 H5
    exact ⟨TT.pm H0 H1 H2 H3 H4 H5, fun e => absurd e (by omega)⟩
  · intro x a b d l1 h1 u v lo hi H0 H1 H2 H3 G4 H5
    obtain ⟨H4, ih4⟩ := G4
    exact ⟨TT.pmv H0 H1 H2 H3 H4 H5, fun e => absurd e (by omega)⟩
  · intro x a b c d l1 h1 u m d2 w2 l2 h2 v lo hi H0 H1 H2 H3 H4 G5 G6 H7 H8 H9
    obtain ⟨H5, ih5⟩ := G5
    obtain ⟨H6, ih6⟩ := G6
    exact ⟨TT.subn H0 H1 H2 H3 H4 H5 H6 H7 H8 H9, fun e => absurd e (by omega)⟩
  · intro x a d w l1 h1 p1 q1 u v lo hi p q H0 H1 G2 H3 H4
    obtain ⟨H2, ih2⟩ := G2
    exact ⟨TT.txt H0 H1 H2 H3 H4, fun e => absurd e (by omega)⟩
  · intro x k p q lo hi d u H0 H1 H2
    exact ⟨TT.byte H0 H1 H2, fun e => absurd e (by omega)⟩
  · intro x a b i d l1 h1 u m l2 h2 v lo hi p q w H0 H1 H2 H3 H4 G5 G6 H7 H8 H9
    obtain ⟨H5, ih5⟩ := G5
    obtain ⟨H6, ih6⟩ := G6
    exact ⟨TT.expr H0 H1 H2 H3 H4 H5 H6 H7 H8 H9, fun e => absurd e (by omega)⟩
  · intro x a d w1 l1 h1 p1 q1 u v lo hi p q w H0 H1 G2 H3 H4 H5
    obtain ⟨H2, ih2⟩ := G2
    exact ⟨TT.ife H0 H1 H2 H3 H4 H5, fun e => absurd e (by omega)⟩
  · intro x c i u lo hi p q d H0 H1 H2 H3 H4 H5 H6 H7
    exact ⟨TT.part H0 H1 H2 H3 H4 H5 H6 H7, fun e => absurd e (by omega)⟩
  · intro x c i u b d2 w2 l1 h1 p1 q1 v w lo hi p q d H0 H1 H2 H3 H4 H5 H6 G7 H8 H9 H10 H11
    obtain ⟨H7, ih7⟩ := G7
    exact ⟨TT.part2 H0 H1 H2 H3 H4 H5 H6 H7 H8 H9 H10 H11, fun e => absurd e (by omega)⟩
  · intro x c i lo hi p q d u H0 H1 H2 H3 H4 H5
    exact ⟨TT.sup H0 H1 H2 H3 H4 H5, fun e => absurd e (by omega)⟩
  · intro x a b d l1 h1 u m w2 l2 h2 p1 q1 v lo hi p q w H0 H1 H2 G3 G4 H5 H6 H7 H8
    obtain ⟨H3, ih3⟩ := G3
    obtain ⟨H4, ih4⟩ := G4
    exact ⟨TT.br H0 H1 H2 H3 H4 H5 H6 H7 H8, fun e => absurd e (by omega)⟩
  · intro lo hi d u H0
    exact ⟨TT.co0 H0, fun e => absurd e (by omega)⟩
  · intro x d lo hi u v G0
    obtain ⟨H0, ih0⟩ := G0
    exact ⟨TT.co1 H0, fun e => absurd e (by omega)⟩
  · intro x d lo hi u v G0
    obtain ⟨H0, ih0⟩ := G0
    exact ⟨TT.c45 H0, fun e => absurd e (by omega)⟩
  · intro x d lo hi u v G0
    obtain ⟨H0, ih0⟩ := G0
    exact ⟨TT.c56 H0, fun e => absurd e (by omega)⟩
  · intro x a nx d l1 h1 u m l2 h2 v lo hi H0 H1 H2 H3 G4 G5 H6 H7
    obtain ⟨H4, ih4⟩ := G4
    obtain ⟨H5, ih5⟩ := G5
    exact ⟨TT.eith H0 H1 H2 H3 H4 H5 H6 H7, fun e => absurd e (by omega)⟩
  · intro x a nx d l1 h1 u m l2 h2 v lo hi H0 H1 H2 H3 G4 G5 H6 H7
    obtain ⟨H4, ih4⟩ := G4
    obtain ⟨H5, ih5⟩ := G5
    exact ⟨TT.both H0 H1 H2 H3 H4 H5 H6 H7, fun e => absurd e (by omega)⟩
  · intro x a d l1 h1 u v lo hi H0 H1 G2 H3
    obtain ⟨H2, ih2⟩ := G2
    exact ⟨TT.not H0 H1 H2 H3, fun e => absurd e (by omega)⟩
  · intro x a d l1 h1 u v lo hi H0 H1 G2 H3
    obtain ⟨H2, ih2⟩ := G2
    exact ⟨TT.clk H0 H1 H2 H3, fun e => absurd e (by omega)⟩
  · intro x a d l1 h1 u v lo hi H0 H1 G2 H3
    obtain ⟨H2, ih2⟩ := G2
    exact ⟨TT.ask H0 H1 H2 H3, fun e => absurd e (by omega)⟩
  · intro x a b c d l1 h1 u v lo hi H0 H1 H2 H3 H4 G5 H6
    obtain ⟨H5, ih5⟩ := G5
    exact ⟨TT.ent H0 H1 H2 H3 H4 H5 H6, fun e => absurd e (by omega)⟩
  · intro x a b lo hi d u H0 H1 H2 H3 H4
    exact ⟨TT.vstr H0 H1 H2 H3 H4, fun e => absurd e (by omega)⟩
  · intro x k lo hi d u H0 H1 H2
    exact ⟨TT.vtru H0 H1 H2, fun e => absurd e (by omega)⟩
  · intro x d lo hi u v G0
    obtain ⟨H0, ih0⟩ := G0
    exact ⟨TT.vsub H0, fun e => absurd e (by omega)⟩
theorem TS.nxt {σ : rS} {k S : Nat} {x d w lo hi u v : Int} (e : TS σ k S x 0 d w lo hi 0 0 u v) (hx : x ≠ 0) (hS : 100 ≤ S := by decide) : lo ≤ x ∧ x < hi ∧ ∃ w' l' u', TS σ k S (tr σ k 5 x) 0 d w' l' hi 0 0 u' v ∧ x < l' := by
  rcases TT.lst e hS with h | ⟨_, w1, w2, l1, h1, p1, q1, l2, h2, p2, q2, m, a, b, c, r, g, i⟩
  · exact absurd h hx
  · have hp : p1 = 0 ∧ q1 = 0 ∧ p2 = 0 ∧ q2 = 0 := by omega
    obtain ⟨rfl, rfl, rfl, rfl⟩ := hp
    exact ⟨by omega, by omega, w2, l2, m, TS.cst (show TS σ k S _ 0 d w2 l2 h2 0 0 m v from b), by omega⟩

theorem MI_sF {σ : rS} {f k : Nat} {x : Int} : MI (sF σ 0 f x) k = MI σ k := by unfold MI; simp only [TS_sF, LQ_sF, tr_sF]
theorem IG_sF {σ : rS} {f k : Nat} {x : Int} : IG (sF σ 0 f x) k = IG σ k := by unfold IG; simp only [TS_sF, LQ_sF, tr_sF]
theorem HQ_sF {σ : rS} {f k : Nat} {x : Int} : HQ (sF σ 0 f x) k = HQ σ k := by unfold HQ; simp only [TS_sF, LQ_sF, tr_sF]
theorem OQ_sF {σ : rS} {f k : Nat} {x : Int} : OQ (sF σ 0 f x) k = OQ σ k := by unfold OQ; simp only [TS_sF, LQ_sF, tr_sF]
theorem MI_a1 {σ : rS} {k : Nat} {i x : Int} : MI (sA σ 1001 i x) k = MI σ k := by unfold MI; simp only [TS_a1, LQ_a1, tr_a1]
theorem IG_a1 {σ : rS} {k : Nat} {i x : Int} : IG (sA σ 1001 i x) k = IG σ k := by unfold IG; simp only [TS_a1, LQ_a1, tr_a1]
theorem HQ_a1 {σ : rS} {k : Nat} {i x : Int} : HQ (sA σ 1001 i x) k = HQ σ k := by unfold HQ; simp only [TS_a1, LQ_a1, tr_a1]
theorem OQ_a1 {σ : rS} {k : Nat} {i x : Int} : OQ (sA σ 1001 i x) k = OQ σ k := by unfold OQ; simp only [TS_a1, LQ_a1, tr_a1]
theorem MI_a2 {σ : rS} {k : Nat} {i x : Int} : MI (sA σ 1002 i x) k = MI σ k := by unfold MI; simp only [TS_a2, LQ_a2, tr_a2]
theorem IG_a2 {σ : rS} {k : Nat} {i x : Int} : IG (sA σ 1002 i x) k = IG σ k := by unfold IG; simp only [TS_a2, LQ_a2, tr_a2]
theorem HQ_a2 {σ : rS} {k : Nat} {i x : Int} : HQ (sA σ 1002 i x) k = HQ σ k := by unfold HQ; simp only [TS_a2, LQ_a2, tr_a2]
theorem OQ_a2 {σ : rS} {k : Nat} {i x : Int} : OQ (sA σ 1002 i x) k = OQ σ k := by unfold OQ; simp only [TS_a2, LQ_a2, tr_a2]
theorem MI_a5 {σ : rS} {k : Nat} {i x : Int} : MI (sA σ 1005 i x) k = MI σ k := by unfold MI; simp only [TS_a5, LQ_a5, tr_a5]
theorem IG_a5 {σ : rS} {k : Nat} {i x : Int} : IG (sA σ 1005 i x) k = IG σ k := by unfold IG; simp only [TS_a5, LQ_a5, tr_a5]
theorem HQ_a5 {σ : rS} {k : Nat} {i x : Int} : HQ (sA σ 1005 i x) k = HQ σ k := by unfold HQ; simp only [TS_a5, LQ_a5, tr_a5]
theorem OQ_a5 {σ : rS} {k : Nat} {i x : Int} : OQ (sA σ 1005 i x) k = OQ σ k := by unfold OQ; simp only [TS_a5, LQ_a5, tr_a5]
theorem MI_a20 {σ : rS} {k : Nat} {i x : Int} : MI (sA σ 1020 i x) k = MI σ k := by unfold MI; simp only [TS_a20, LQ_a20, tr_a20]
theorem IG_a20 {σ : rS} {k : Nat} {i x : Int} : IG (sA σ 1020 i x) k = IG σ k := by unfold IG; simp only [TS_a20, LQ_a20, tr_a20]
theorem HQ_a20 {σ : rS} {k : Nat} {i x : Int} : HQ (sA σ 1020 i x) k = HQ σ k := by unfold HQ; simp only [TS_a20, LQ_a20, tr_a20]
theorem OQ_a20 {σ : rS} {k : Nat} {i x : Int} : OQ (sA σ 1020 i x) k = OQ σ k := by unfold OQ; simp only [TS_a20, LQ_a20, tr_a20]
theorem MI_a26 {σ : rS} {k : Nat} {i x : Int} : MI (sA σ 1026 i x) k = MI σ k := by unfold MI; simp only [TS_a26, LQ_a26, tr_a26]
theorem IG_a26 {σ : rS} {k : Nat} {i x : Int} : IG (sA σ 1026 i x) k = IG σ k := by unfold IG; simp only [TS_a26, LQ_a26, tr_a26]
theorem HQ_a26 {σ : rS} {k : Nat} {i x : Int} : HQ (sA σ 1026 i x) k = HQ σ k := by unfold HQ; simp only [TS_a26, LQ_a26, tr_a26]
theorem OQ_a26 {σ : rS} {k : Nat} {i x : Int} : OQ (sA σ 1026 i x) k = OQ σ k := by unfold OQ; simp only [TS_a26, LQ_a26, tr_a26]
theorem MI_a27 {σ : rS} {k : Nat} {i x : Int} : MI (sA σ 1027 i x) k = MI σ k := by unfold MI; simp only [TS_a27, LQ_a27, tr_a27]
theorem IG_a27 {σ : rS} {k : Nat} {i x : Int} : IG (sA σ 1027 i x) k = IG σ k := by unfold IG; simp only [TS_a27, LQ_a27, tr_a27]
theorem HQ_a27 {σ : rS} {k : Nat} {i x : Int} : HQ (sA σ 1027 i x) k = HQ σ k := by unfold HQ; simp only [TS_a27, LQ_a27, tr_a27]
theorem OQ_a27 {σ : rS} {k : Nat} {i x : Int} : OQ (sA σ 1027 i x) k = OQ σ k := by unfold OQ; simp only [TS_a27, LQ_a27, tr_a27]
theorem MI_a34 {σ : rS} {k : Nat} {i x : Int} : MI (sA σ 1034 i x) k = MI σ k := by unfold MI; simp only [TS_a34, LQ_a34, tr_a34]
theorem IG_a34 {σ : rS} {k : Nat} {i x : Int} : IG (sA σ 1034 i x) k = IG σ k := by unfold IG; simp only [TS_a34, LQ_a34, tr_a34]
theorem HQ_a34 {σ : rS} {k : Nat} {i x : Int} : HQ (sA σ 1034 i x) k = HQ σ k := by unfold HQ; simp only [TS_a34, LQ_a34, tr_a34]
theorem OQ_a34 {σ : rS} {k : Nat} {i x : Int} : OQ (sA σ 1034 i x) k = OQ σ k := by unfold OQ; simp only [TS_a34, LQ_a34, tr_a34]
theorem MI_a35 {σ : rS} {k : Nat} {i x : Int} : MI (sA σ 1035 i x) k = MI σ k := by unfold MI; simp only [TS_a35, LQ_a35, tr_a35]
theorem IG_a35 {σ : rS} {k : Nat} {i x : Int} : IG (sA σ 1035 i x) k = IG σ k := by unfold IG; simp only [TS_a35, LQ_a35, tr_a35]
theorem HQ_a35 {σ : rS} {k : Nat} {i x : Int} : HQ (sA σ 1035 i x) k = HQ σ k := by unfold HQ; simp only [TS_a35, LQ_a35, tr_a35]
theorem OQ_a35 {σ : rS} {k : Nat} {i x : Int} : OQ (sA σ 1035 i x) k = OQ σ k := by unfold OQ; simp only [TS_a35, LQ_a35, tr_a35]
theorem MI_a36 {σ : rS} {k : Nat} {i x : Int} : MI (sA σ 1036 i x) k = MI σ k := by unfold MI; simp only [TS_a36, LQ_a36, tr_a36]
theorem IG_a36 {σ : rS} {k : Nat} {i x : Int} : IG (sA σ 1036 i x) k = IG σ k := by unfold IG; simp only [TS_a36, LQ_a36, tr_a36]
theorem HQ_a36 {σ : rS} {k : Nat} {i x : Int} : HQ (sA σ 1036 i x) k = HQ σ k := by unfold HQ; simp only [TS_a36, LQ_a36, tr_a36]
theorem OQ_a36 {σ : rS} {k : Nat} {i x : Int} : OQ (sA σ 1036 i x) k = OQ σ k := by unfold OQ; simp only [TS_a36, LQ_a36, tr_a36]
theorem MI_a37 {σ : rS} {k : Nat} {i x : Int} : MI (sA σ 1037 i x) k = MI σ k := by unfold MI; simp only [TS_a37, LQ_a37, tr_a37]
theorem IG_a37 {σ : rS} {k : Nat} {i x : Int} : IG (sA σ 1037 i x) k = IG σ k := by unfold IG; simp only [TS_a37, LQ_a37, tr_a37]
theorem HQ_a37 {σ : rS} {k : Nat} {i x : Int} : HQ (sA σ 1037 i x) k = HQ σ k := by unfold HQ; simp only [TS_a37, LQ_a37, tr_a37]
theorem OQ_a37 {σ : rS} {k : Nat} {i x : Int} : OQ (sA σ 1037 i x) k = OQ σ k := by unfold OQ; simp only [TS_a37, LQ_a37, tr_a37]
theorem MI_a40 {σ : rS} {k : Nat} {i x : Int} : MI (sA σ 1040 i x) k = MI σ k := by unfold MI; simp only [TS_a40, LQ_a40, tr_a40]
theorem IG_a40 {σ : rS} {k : Nat} {i x : Int} : IG (sA σ 1040 i x) k = IG σ k := by unfold IG; simp only [TS_a40, LQ_a40, tr_a40]
theorem HQ_a40 {σ : rS} {k : Nat} {i x : Int} : HQ (sA σ 1040 i x) k = HQ σ k := by unfold HQ; simp only [TS_a40, LQ_a40, tr_a40]
theorem OQ_a40 {σ : rS} {k : Nat} {i x : Int} : OQ (sA σ 1040 i x) k = OQ σ k := by unfold OQ; simp only [TS_a40, LQ_a40, tr_a40]
theorem MI_a46 {σ : rS} {k : Nat} {i x : Int} : MI (sA σ 1046 i x) k = MI σ k := by unfold MI; simp only [TS_a46, LQ_a46, tr_a46]
theorem IG_a46 {σ : rS} {k : Nat} {i x : Int} : IG (sA σ 1046 i x) k = IG σ k := by unfold IG; simp only [TS_a46, LQ_a46, tr_a46]
theorem HQ_a46 {σ : rS} {k : Nat} {i x : Int} : HQ (sA σ 1046 i x) k = HQ σ k := by unfold HQ; simp only [TS_a46, LQ_a46, tr_a46]
theorem OQ_a46 {σ : rS} {k : Nat} {i x : Int} : OQ (sA σ 1046 i x) k = OQ σ k := by unfold OQ; simp only [TS_a46, LQ_a46, tr_a46]
theorem MI_a47 {σ : rS} {k : Nat} {i x : Int} : MI (sA σ 1047 i x) k = MI σ k := by unfold MI; simp only [TS_a47, LQ_a47, tr_a47]
theorem IG_a47 {σ : rS} {k : Nat} {i x : Int} : IG (sA σ 1047 i x) k = IG σ k := by unfold IG; simp only [TS_a47, LQ_a47, tr_a47]
theorem HQ_a47 {σ : rS} {k : Nat} {i x : Int} : HQ (sA σ 1047 i x) k = HQ σ k := by unfold HQ; simp only [TS_a47, LQ_a47, tr_a47]
theorem OQ_a47 {σ : rS} {k : Nat} {i x : Int} : OQ (sA σ 1047 i x) k = OQ σ k := by unfold OQ; simp only [TS_a47, LQ_a47, tr_a47]
theorem MI_a48 {σ : rS} {k : Nat} {i x : Int} : MI (sA σ 1048 i x) k = MI σ k := by unfold MI; simp only [TS_a48, LQ_a48, tr_a48]
theorem IG_a48 {σ : rS} {k : Nat} {i x : Int} : IG (sA σ 1048 i x) k = IG σ k := by unfold IG; simp only [TS_a48, LQ_a48, tr_a48]
theorem HQ_a48 {σ : rS} {k : Nat} {i x : Int} : HQ (sA σ 1048 i x) k = HQ σ k := by unfold HQ; simp only [TS_a48, LQ_a48, tr_a48]
theorem OQ_a48 {σ : rS} {k : Nat} {i x : Int} : OQ (sA σ 1048 i x) k = OQ σ k := by unfold OQ; simp only [TS_a48, LQ_a48, tr_a48]
theorem MI_a49 {σ : rS} {k : Nat} {i x : Int} : MI (sA σ 1049 i x) k = MI σ k := by unfold MI; simp only [TS_a49, LQ_a49, tr_a49]
theorem IG_a49 {σ : rS} {k : Nat} {i x : Int} : IG (sA σ 1049 i x) k = IG σ k := by unfold IG; simp only [TS_a49, LQ_a49, tr_a49]
theorem HQ_a49 {σ : rS} {k : Nat} {i x : Int} : HQ (sA σ 1049 i x) k = HQ σ k := by unfold HQ; simp only [TS_a49, LQ_a49, tr_a49]
theorem OQ_a49 {σ : rS} {k : Nat} {i x : Int} : OQ (sA σ 1049 i x) k = OQ σ k := by unfold OQ; simp only [TS_a49, LQ_a49, tr_a49]
theorem MI_a50 {σ : rS} {k : Nat} {i x : Int} : MI (sA σ 1050 i x) k = MI σ k := by unfold MI; simp only [TS_a50, LQ_a50, tr_a50]
theorem IG_a50 {σ : rS} {k : Nat} {i x : Int} : IG (sA σ 1050 i x) k = IG σ k := by unfold IG; simp only [TS_a50, LQ_a50, tr_a50]
theorem HQ_a50 {σ : rS} {k : Nat} {i x : Int} : HQ (sA σ 1050 i x) k = HQ σ k := by unfold HQ; simp only [TS_a50, LQ_a50, tr_a50]
theorem OQ_a50 {σ : rS} {k : Nat} {i x : Int} : OQ (sA σ 1050 i x) k = OQ σ k := by unfold OQ; simp only [TS_a50, LQ_a50, tr_a50]
theorem MI_a51 {σ : rS} {k : Nat} {i x : Int} : MI (sA σ 1051 i x) k = MI σ k := by unfold MI; simp only [TS_a51, LQ_a51, tr_a51]
theorem IG_a51 {σ : rS} {k : Nat} {i x : Int} : IG (sA σ 1051 i x) k = IG σ k := by unfold IG; simp only [TS_a51, LQ_a51, tr_a51]
theorem HQ_a51 {σ : rS} {k : Nat} {i x : Int} : HQ (sA σ 1051 i x) k = HQ σ k := by unfold HQ; simp only [TS_a51, LQ_a51, tr_a51]
theorem OQ_a51 {σ : rS} {k : Nat} {i x : Int} : OQ (sA σ 1051 i x) k = OQ σ k := by unfold OQ; simp only [TS_a51, LQ_a51, tr_a51]
theorem MI_a52 {σ : rS} {k : Nat} {i x : Int} : MI (sA σ 1052 i x) k = MI σ k := by unfold MI; simp only [TS_a52, LQ_a52, tr_a52]
theorem IG_a52 {σ : rS} {k : Nat} {i x : Int} : IG (sA σ 1052 i x) k = IG σ k := by unfold IG; simp only [TS_a52, LQ_a52, tr_a52]
theorem HQ_a52 {σ : rS} {k : Nat} {i x : Int} : HQ (sA σ 1052 i x) k = HQ σ k := by unfold HQ; simp only [TS_a52, LQ_a52, tr_a52]
theorem OQ_a52 {σ : rS} {k : Nat} {i x : Int} : OQ (sA σ 1052 i x) k = OQ σ k := by unfold OQ; simp only [TS_a52, LQ_a52, tr_a52]
theorem MI_a53 {σ : rS} {k : Nat} {i x : Int} : MI (sA σ 1053 i x) k = MI σ k := by unfold MI; simp only [TS_a53, LQ_a53, tr_a53]
theorem IG_a53 {σ : rS} {k : Nat} {i x : Int} : IG (sA σ 1053 i x) k = IG σ k := by unfold IG; simp only [TS_a53, LQ_a53, tr_a53]
theorem HQ_a53 {σ : rS} {k : Nat} {i x : Int} : HQ (sA σ 1053 i x) k = HQ σ k := by unfold HQ; simp only [TS_a53, LQ_a53, tr_a53]
theorem OQ_a53 {σ : rS} {k : Nat} {i x : Int} : OQ (sA σ 1053 i x) k = OQ σ k := by unfold OQ; simp only [TS_a53, LQ_a53, tr_a53]
theorem MI_a54 {σ : rS} {k : Nat} {i x : Int} : MI (sA σ 1054 i x) k = MI σ k := by unfold MI; simp only [TS_a54, LQ_a54, tr_a54]
theorem IG_a54 {σ : rS} {k : Nat} {i x : Int} : IG (sA σ 1054 i x) k = IG σ k := by unfold IG; simp only [TS_a54, LQ_a54, tr_a54]
theorem HQ_a54 {σ : rS} {k : Nat} {i x : Int} : HQ (sA σ 1054 i x) k = HQ σ k := by unfold HQ; simp only [TS_a54, LQ_a54, tr_a54]
theorem OQ_a54 {σ : rS} {k : Nat} {i x : Int} : OQ (sA σ 1054 i x) k = OQ σ k := by unfold OQ; simp only [TS_a54, LQ_a54, tr_a54]
theorem MI_a55 {σ : rS} {k : Nat} {i x : Int} : MI (sA σ 1055 i x) k = MI σ k := by unfold MI; simp only [TS_a55, LQ_a55, tr_a55]
theorem IG_a55 {σ : rS} {k : Nat} {i x : Int} : IG (sA σ 1055 i x) k = IG σ k := by unfold IG; simp only [TS_a55, LQ_a55, tr_a55]
theorem HQ_a55 {σ : rS} {k : Nat} {i x : Int} : HQ (sA σ 1055 i x) k = HQ σ k := by unfold HQ; simp only [TS_a55, LQ_a55, tr_a55]
theorem OQ_a55 {σ : rS} {k : Nat} {i x : Int} : OQ (sA σ 1055 i x) k = OQ σ k := by unfold OQ; simp only [TS_a55, LQ_a55, tr_a55]
theorem MI_a56 {σ : rS} {k : Nat} {i x : Int} : MI (sA σ 1056 i x) k = MI σ k := by unfold MI; simp only [TS_a56, LQ_a56, tr_a56]
theorem IG_a56 {σ : rS} {k : Nat} {i x : Int} : IG (sA σ 1056 i x) k = IG σ k := by unfold IG; simp only [TS_a56, LQ_a56, tr_a56]
theorem HQ_a56 {σ : rS} {k : Nat} {i x : Int} : HQ (sA σ 1056 i x) k = HQ σ k := by unfold HQ; simp only [TS_a56, LQ_a56, tr_a56]
theorem OQ_a56 {σ : rS} {k : Nat} {i x : Int} : OQ (sA σ 1056 i x) k = OQ σ k := by unfold OQ; simp only [TS_a56, LQ_a56, tr_a56]
theorem MI_a57 {σ : rS} {k : Nat} {i x : Int} : MI (sA σ 1057 i x) k = MI σ k := by unfold MI; simp only [TS_a57, LQ_a57, tr_a57]
theorem IG_a57 {σ : rS} {k : Nat} {i x : Int} : IG (sA σ 1057 i x) k = IG σ k := by unfold IG; simp only [TS_a57, LQ_a57, tr_a57]
theorem HQ_a57 {σ : rS} {k : Nat} {i x : Int} : HQ (sA σ 1057 i x) k = HQ σ k := by unfold HQ; simp only [TS_a57, LQ_a57, tr_a57]
theorem OQ_a57 {σ : rS} {k : Nat} {i x : Int} : OQ (sA σ 1057 i x) k = OQ σ k := by unfold OQ; simp only [TS_a57, LQ_a57, tr_a57]
theorem MI_a58 {σ : rS} {k : Nat} {i x : Int} : MI (sA σ 1058 i x) k = MI σ k := by unfold MI; simp only [TS_a58, LQ_a58, tr_a58]
theorem IG_a58 {σ : rS} {k : Nat} {i x : Int} : IG (sA σ 1058 i x) k = IG σ k := by unfold IG; simp only [TS_a58, LQ_a58, tr_a58]
theorem HQ_a58 {σ : rS} {k : Nat} {i x : Int} : HQ (sA σ 1058 i x) k = HQ σ k := by unfold HQ; simp only [TS_a58, LQ_a58, tr_a58]
theorem OQ_a58 {σ : rS} {k : Nat} {i x : Int} : OQ (sA σ 1058 i x) k = OQ σ k := by unfold OQ; simp only [TS_a58, LQ_a58, tr_a58]
theorem MI_a59 {σ : rS} {k : Nat} {i x : Int} : MI (sA σ 1059 i x) k = MI σ k := by unfold MI; simp only [TS_a59, LQ_a59, tr_a59]
theorem IG_a59 {σ : rS} {k : Nat} {i x : Int} : IG (sA σ 1059 i x) k = IG σ k := by unfold IG; simp only [TS_a59, LQ_a59, tr_a59]
theorem HQ_a59 {σ : rS} {k : Nat} {i x : Int} : HQ (sA σ 1059 i x) k = HQ σ k := by unfold HQ; simp only [TS_a59, LQ_a59, tr_a59]
theorem OQ_a59 {σ : rS} {k : Nat} {i x : Int} : OQ (sA σ 1059 i x) k = OQ σ k := by unfold OQ; simp only [TS_a59, LQ_a59, tr_a59]
theorem MI_a61 {σ : rS} {k : Nat} {i x : Int} : MI (sA σ 1061 i x) k = MI σ k := by unfold MI; simp only [TS_a61, LQ_a61, tr_a61]
theorem IG_a61 {σ : rS} {k : Nat} {i x : Int} : IG (sA σ 1061 i x) k = IG σ k := by unfold IG; simp only [TS_a61, LQ_a61, tr_a61]
theorem HQ_a61 {σ : rS} {k : Nat} {i x : Int} : HQ (sA σ 1061 i x) k = HQ σ k := by unfold HQ; simp only [TS_a61, LQ_a61, tr_a61]
theorem OQ_a61 {σ : rS} {k : Nat} {i x : Int} : OQ (sA σ 1061 i x) k = OQ σ k := by unfold OQ; simp only [TS_a61, LQ_a61, tr_a61]
theorem MI_a62 {σ : rS} {k : Nat} {i x : Int} : MI (sA σ 1062 i x) k = MI σ k := by unfold MI; simp only [TS_a62, LQ_a62, tr_a62]
theorem IG_a62 {σ : rS} {k : Nat} {i x : Int} : IG (sA σ 1062 i x) k = IG σ k := by unfold IG; simp only [TS_a62, LQ_a62, tr_a62]
theorem HQ_a62 {σ : rS} {k : Nat} {i x : Int} : HQ (sA σ 1062 i x) k = HQ σ k := by unfold HQ; simp only [TS_a62, LQ_a62, tr_a62]
theorem OQ_a62 {σ : rS} {k : Nat} {i x : Int} : OQ (sA σ 1062 i x) k = OQ σ k := by unfold OQ; simp only [TS_a62, LQ_a62, tr_a62]
theorem MI_a63 {σ : rS} {k : Nat} {i x : Int} : MI (sA σ 1063 i x) k = MI σ k := by unfold MI; simp only [TS_a63, LQ_a63, tr_a63]
theorem IG_a63 {σ : rS} {k : Nat} {i x : Int} : IG (sA σ 1063 i x) k = IG σ k := by unfold IG; simp only [TS_a63, LQ_a63, tr_a63]
theorem HQ_a63 {σ : rS} {k : Nat} {i x : Int} : HQ (sA σ 1063 i x) k = HQ σ k := by unfold HQ; simp only [TS_a63, LQ_a63, tr_a63]
theorem OQ_a63 {σ : rS} {k : Nat} {i x : Int} : OQ (sA σ 1063 i x) k = OQ σ k := by unfold OQ; simp only [TS_a63, LQ_a63, tr_a63]
theorem MI_a64 {σ : rS} {k : Nat} {i x : Int} : MI (sA σ 1064 i x) k = MI σ k := by unfold MI; simp only [TS_a64, LQ_a64, tr_a64]
theorem IG_a64 {σ : rS} {k : Nat} {i x : Int} : IG (sA σ 1064 i x) k = IG σ k := by unfold IG; simp only [TS_a64, LQ_a64, tr_a64]
theorem HQ_a64 {σ : rS} {k : Nat} {i x : Int} : HQ (sA σ 1064 i x) k = HQ σ k := by unfold HQ; simp only [TS_a64, LQ_a64, tr_a64]
theorem OQ_a64 {σ : rS} {k : Nat} {i x : Int} : OQ (sA σ 1064 i x) k = OQ σ k := by unfold OQ; simp only [TS_a64, LQ_a64, tr_a64]
theorem MI_a69 {σ : rS} {k : Nat} {i x : Int} : MI (sA σ 1069 i x) k = MI σ k := by unfold MI; simp only [TS_a69, LQ_a69, tr_a69]
theorem IG_a69 {σ : rS} {k : Nat} {i x : Int} : IG (sA σ 1069 i x) k = IG σ k := by unfold IG; simp only [TS_a69, LQ_a69, tr_a69]
theorem HQ_a69 {σ : rS} {k : Nat} {i x : Int} : HQ (sA σ 1069 i x) k = HQ σ k := by unfold HQ; simp only [TS_a69, LQ_a69, tr_a69]
theorem OQ_a69 {σ : rS} {k : Nat} {i x : Int} : OQ (sA σ 1069 i x) k = OQ σ k := by unfold OQ; simp only [TS_a69, LQ_a69, tr_a69]
theorem MI_a75 {σ : rS} {k : Nat} {i x : Int} : MI (sA σ 1075 i x) k = MI σ k := by unfold MI; simp only [TS_a75, LQ_a75, tr_a75]
theorem IG_a75 {σ : rS} {k : Nat} {i x : Int} : IG (sA σ 1075 i x) k = IG σ k := by unfold IG; simp only [TS_a75, LQ_a75, tr_a75]
theorem HQ_a75 {σ : rS} {k : Nat} {i x : Int} : HQ (sA σ 1075 i x) k = HQ σ k := by unfold HQ; simp only [TS_a75, LQ_a75, tr_a75]
theorem OQ_a75 {σ : rS} {k : Nat} {i x : Int} : OQ (sA σ 1075 i x) k = OQ σ k := by unfold OQ; simp only [TS_a75, LQ_a75, tr_a75]
theorem MI_a76 {σ : rS} {k : Nat} {i x : Int} : MI (sA σ 1076 i x) k = MI σ k := by unfold MI; simp only [TS_a76, LQ_a76, tr_a76]
theorem IG_a76 {σ : rS} {k : Nat} {i x : Int} : IG (sA σ 1076 i x) k = IG σ k := by unfold IG; simp only [TS_a76, LQ_a76, tr_a76]
theorem HQ_a76 {σ : rS} {k : Nat} {i x : Int} : HQ (sA σ 1076 i x) k = HQ σ k := by unfold HQ; simp only [TS_a76, LQ_a76, tr_a76]
theorem OQ_a76 {σ : rS} {k : Nat} {i x : Int} : OQ (sA σ 1076 i x) k = OQ σ k := by unfold OQ; simp only [TS_a76, LQ_a76, tr_a76]
theorem MI_a77 {σ : rS} {k : Nat} {i x : Int} : MI (sA σ 1077 i x) k = MI σ k := by unfold MI; simp only [TS_a77, LQ_a77, tr_a77]
theorem IG_a77 {σ : rS} {k : Nat} {i x : Int} : IG (sA σ 1077 i x) k = IG σ k := by unfold IG; simp only [TS_a77, LQ_a77, tr_a77]
theorem HQ_a77 {σ : rS} {k : Nat} {i x : Int} : HQ (sA σ 1077 i x) k = HQ σ k := by unfold HQ; simp only [TS_a77, LQ_a77, tr_a77]
theorem OQ_a77 {σ : rS} {k : Nat} {i x : Int} : OQ (sA σ 1077 i x) k = OQ σ k := by unfold OQ; simp only [TS_a77, LQ_a77, tr_a77]
theorem MI_a78 {σ : rS} {k : Nat} {i x : Int} : MI (sA σ 1078 i x) k = MI σ k := by unfold MI; simp only [TS_a78, LQ_a78, tr_a78]
theorem IG_a78 {σ : rS} {k : Nat} {i x : Int} : IG (sA σ 1078 i x) k = IG σ k := by unfold IG; simp only [TS_a78, LQ_a78, tr_a78]
theorem HQ_a78 {σ : rS} {k : Nat} {i x : Int} : HQ (sA σ 1078 i x) k = HQ σ k := by unfold HQ; simp only [TS_a78, LQ_a78, tr_a78]
theorem OQ_a78 {σ : rS} {k : Nat} {i x : Int} : OQ (sA σ 1078 i x) k = OQ σ k := by unfold OQ; simp only [TS_a78, LQ_a78, tr_a78]
theorem MI_a79 {σ : rS} {k : Nat} {i x : Int} : MI (sA σ 1079 i x) k = MI σ k := by unfold MI; simp only [TS_a79, LQ_a79, tr_a79]
theorem IG_a79 {σ : rS} {k : Nat} {i x : Int} : IG (sA σ 1079 i x) k = IG σ k := by unfold IG; simp only [TS_a79, LQ_a79, tr_a79]
theorem HQ_a79 {σ : rS} {k : Nat} {i x : Int} : HQ (sA σ 1079 i x) k = HQ σ k := by unfold HQ; simp only [TS_a79, LQ_a79, tr_a79]
theorem OQ_a79 {σ : rS} {k : Nat} {i x : Int} : OQ (sA σ 1079 i x) k = OQ σ k := by unfold OQ; simp only [TS_a79, LQ_a79, tr_a79]
theorem MI_a84 {σ : rS} {k : Nat} {i x : Int} : MI (sA σ 1084 i x) k = MI σ k := by unfold MI; simp only [TS_a84, LQ_a84, tr_a84]
theorem IG_a84 {σ : rS} {k : Nat} {i x : Int} : IG (sA σ 1084 i x) k = IG σ k := by unfold IG; simp only [TS_a84, LQ_a84, tr_a84]
theorem HQ_a84 {σ : rS} {k : Nat} {i x : Int} : HQ (sA σ 1084 i x) k = HQ σ k := by unfold HQ; simp only [TS_a84, LQ_a84, tr_a84]
theorem OQ_a84 {σ : rS} {k : Nat} {i x : Int} : OQ (sA σ 1084 i x) k = OQ σ k := by unfold OQ; simp only [TS_a84, LQ_a84, tr_a84]
theorem MI_a85 {σ : rS} {k : Nat} {i x : Int} : MI (sA σ 1085 i x) k = MI σ k := by unfold MI; simp only [TS_a85, LQ_a85, tr_a85]
theorem IG_a85 {σ : rS} {k : Nat} {i x : Int} : IG (sA σ 1085 i x) k = IG σ k := by unfold IG; simp only [TS_a85, LQ_a85, tr_a85]
theorem HQ_a85 {σ : rS} {k : Nat} {i x : Int} : HQ (sA σ 1085 i x) k = HQ σ k := by unfold HQ; simp only [TS_a85, LQ_a85, tr_a85]
theorem OQ_a85 {σ : rS} {k : Nat} {i x : Int} : OQ (sA σ 1085 i x) k = OQ σ k := by unfold OQ; simp only [TS_a85, LQ_a85, tr_a85]
theorem MI_a86 {σ : rS} {k : Nat} {i x : Int} : MI (sA σ 1086 i x) k = MI σ k := by unfold MI; simp only [TS_a86, LQ_a86, tr_a86]
theorem IG_a86 {σ : rS} {k : Nat} {i x : Int} : IG (sA σ 1086 i x) k = IG σ k := by unfold IG; simp only [TS_a86, LQ_a86, tr_a86]
theorem HQ_a86 {σ : rS} {k : Nat} {i x : Int} : HQ (sA σ 1086 i x) k = HQ σ k := by unfold HQ; simp only [TS_a86, LQ_a86, tr_a86]
theorem OQ_a86 {σ : rS} {k : Nat} {i x : Int} : OQ (sA σ 1086 i x) k = OQ σ k := by unfold OQ; simp only [TS_a86, LQ_a86, tr_a86]
theorem MI_a87 {σ : rS} {k : Nat} {i x : Int} : MI (sA σ 1087 i x) k = MI σ k := by unfold MI; simp only [TS_a87, LQ_a87, tr_a87]
theorem IG_a87 {σ : rS} {k : Nat} {i x : Int} : IG (sA σ 1087 i x) k = IG σ k := by unfold IG; simp only [TS_a87, LQ_a87, tr_a87]
theorem HQ_a87 {σ : rS} {k : Nat} {i x : Int} : HQ (sA σ 1087 i x) k = HQ σ k := by unfold HQ; simp only [TS_a87, LQ_a87, tr_a87]
theorem OQ_a87 {σ : rS} {k : Nat} {i x : Int} : OQ (sA σ 1087 i x) k = OQ σ k := by unfold OQ; simp only [TS_a87, LQ_a87, tr_a87]
theorem MI_a89 {σ : rS} {k : Nat} {i x : Int} : MI (sA σ 1089 i x) k = MI σ k := by unfold MI; simp only [TS_a89, LQ_a89, tr_a89]
theorem IG_a89 {σ : rS} {k : Nat} {i x : Int} : IG (sA σ 1089 i x) k = IG σ k := by unfold IG; simp only [TS_a89, LQ_a89, tr_a89]
theorem HQ_a89 {σ : rS} {k : Nat} {i x : Int} : HQ (sA σ 1089 i x) k = HQ σ k := by unfold HQ; simp only [TS_a89, LQ_a89, tr_a89]
theorem OQ_a89 {σ : rS} {k : Nat} {i x : Int} : OQ (sA σ 1089 i x) k = OQ σ k := by unfold OQ; simp only [TS_a89, LQ_a89, tr_a89]
theorem MI_a90 {σ : rS} {k : Nat} {i x : Int} : MI (sA σ 1090 i x) k = MI σ k := by unfold MI; simp only [TS_a90, LQ_a90, tr_a90]
theorem IG_a90 {σ : rS} {k : Nat} {i x : Int} : IG (sA σ 1090 i x) k = IG σ k := by unfold IG; simp only [TS_a90, LQ_a90, tr_a90]
theorem HQ_a90 {σ : rS} {k : Nat} {i x : Int} : HQ (sA σ 1090 i x) k = HQ σ k := by unfold HQ; simp only [TS_a90, LQ_a90, tr_a90]
theorem OQ_a90 {σ : rS} {k : Nat} {i x : Int} : OQ (sA σ 1090 i x) k = OQ σ k := by unfold OQ; simp only [TS_a90, LQ_a90, tr_a90]
theorem MI_a91 {σ : rS} {k : Nat} {i x : Int} : MI (sA σ 1091 i x) k = MI σ k := by unfold MI; simp only [TS_a91, LQ_a91, tr_a91]
theorem IG_a91 {σ : rS} {k : Nat} {i x : Int} : IG (sA σ 1091 i x) k = IG σ k := by unfold IG; simp only [TS_a91, LQ_a91, tr_a91]
theorem HQ_a91 {σ : rS} {k : Nat} {i x : Int} : HQ (sA σ 1091 i x) k = HQ σ k := by unfold HQ; simp only [TS_a91, LQ_a91, tr_a91]
theorem OQ_a91 {σ : rS} {k : Nat} {i x : Int} : OQ (sA σ 1091 i x) k = OQ σ k := by unfold OQ; simp only [TS_a91, LQ_a91, tr_a91]
theorem MI_a93 {σ : rS} {k : Nat} {i x : Int} : MI (sA σ 1093 i x) k = MI σ k := by unfold MI; simp only [TS_a93, LQ_a93, tr_a93]
theorem IG_a93 {σ : rS} {k : Nat} {i x : Int} : IG (sA σ 1093 i x) k = IG σ k := by unfold IG; simp only [TS_a93, LQ_a93, tr_a93]
theorem HQ_a93 {σ : rS} {k : Nat} {i x : Int} : HQ (sA σ 1093 i x) k = HQ σ k := by unfold HQ; simp only [TS_a93, LQ_a93, tr_a93]
theorem OQ_a93 {σ : rS} {k : Nat} {i x : Int} : OQ (sA σ 1093 i x) k = OQ σ k := by unfold OQ; simp only [TS_a93, LQ_a93, tr_a93]
theorem MI_a102 {σ : rS} {k : Nat} {i x : Int} : MI (sA σ 1102 i x) k = MI σ k := by unfold MI; simp only [TS_a102, LQ_a102, tr_a102]
theorem IG_a102 {σ : rS} {k : Nat} {i x : Int} : IG (sA σ 1102 i x) k = IG σ k := by unfold IG; simp only [TS_a102, LQ_a102, tr_a102]
theorem HQ_a102 {σ : rS} {k : Nat} {i x : Int} : HQ (sA σ 1102 i x) k = HQ σ k := by unfold HQ; simp only [TS_a102, LQ_a102, tr_a102]
theorem OQ_a102 {σ : rS} {k : Nat} {i x : Int} : OQ (sA σ 1102 i x) k = OQ σ k := by unfold OQ; simp only [TS_a102, LQ_a102, tr_a102]
theorem MI_a105 {σ : rS} {k : Nat} {i x : Int} : MI (sA σ 1105 i x) k = MI σ k := by unfold MI; simp only [TS_a105, LQ_a105, tr_a105]
theorem IG_a105 {σ : rS} {k : Nat} {i x : Int} : IG (sA σ 1105 i x) k = IG σ k := by unfold IG; simp only [TS_a105, LQ_a105, tr_a105]
theorem HQ_a105 {σ : rS} {k : Nat} {i x : Int} : HQ (sA σ 1105 i x) k = HQ σ k := by unfold HQ; simp only [TS_a105, LQ_a105, tr_a105]
theorem OQ_a105 {σ : rS} {k : Nat} {i x : Int} : OQ (sA σ 1105 i x) k = OQ σ k := by unfold OQ; simp only [TS_a105, LQ_a105, tr_a105]
theorem MI_a106 {σ : rS} {k : Nat} {i x : Int} : MI (sA σ 1106 i x) k = MI σ k := by unfold MI; simp only [TS_a106, LQ_a106, tr_a106]
theorem IG_a106 {σ : rS} {k : Nat} {i x : Int} : IG (sA σ 1106 i x) k = IG σ k := by unfold IG; simp only [TS_a106, LQ_a106, tr_a106]
theorem HQ_a106 {σ : rS} {k : Nat} {i x : Int} : HQ (sA σ 1106 i x) k = HQ σ k := by unfold HQ; simp only [TS_a106, LQ_a106, tr_a106]
theorem OQ_a106 {σ : rS} {k : Nat} {i x : Int} : OQ (sA σ 1106 i x) k = OQ σ k := by unfold OQ; simp only [TS_a106, LQ_a106, tr_a106]
theorem MI_a107 {σ : rS} {k : Nat} {i x : Int} : MI (sA σ 1107 i x) k = MI σ k := by unfold MI; simp only [TS_a107, LQ_a107, tr_a107]
theorem IG_a107 {σ : rS} {k : Nat} {i x : Int} : IG (sA σ 1107 i x) k = IG σ k := by unfold IG; simp only [TS_a107, LQ_a107, tr_a107]
theorem HQ_a107 {σ : rS} {k : Nat} {i x : Int} : HQ (sA σ 1107 i x) k = HQ σ k := by unfold HQ; simp only [TS_a107, LQ_a107, tr_a107]
theorem OQ_a107 {σ : rS} {k : Nat} {i x : Int} : OQ (sA σ 1107 i x) k = OQ σ k := by unfold OQ; simp only [TS_a107, LQ_a107, tr_a107]
theorem MI_a108 {σ : rS} {k : Nat} {i x : Int} : MI (sA σ 1108 i x) k = MI σ k := by unfold MI; simp only [TS_a108, LQ_a108, tr_a108]
theorem IG_a108 {σ : rS} {k : Nat} {i x : Int} : IG (sA σ 1108 i x) k = IG σ k := by unfold IG; simp only [TS_a108, LQ_a108, tr_a108]
theorem HQ_a108 {σ : rS} {k : Nat} {i x : Int} : HQ (sA σ 1108 i x) k = HQ σ k := by unfold HQ; simp only [TS_a108, LQ_a108, tr_a108]
theorem OQ_a108 {σ : rS} {k : Nat} {i x : Int} : OQ (sA σ 1108 i x) k = OQ σ k := by unfold OQ; simp only [TS_a108, LQ_a108, tr_a108]
theorem MI_a109 {σ : rS} {k : Nat} {i x : Int} : MI (sA σ 1109 i x) k = MI σ k := by unfold MI; simp only [TS_a109, LQ_a109, tr_a109]
theorem IG_a109 {σ : rS} {k : Nat} {i x : Int} : IG (sA σ 1109 i x) k = IG σ k := by unfold IG; simp only [TS_a109, LQ_a109, tr_a109]
theorem HQ_a109 {σ : rS} {k : Nat} {i x : Int} : HQ (sA σ 1109 i x) k = HQ σ k := by unfold HQ; simp only [TS_a109, LQ_a109, tr_a109]
theorem OQ_a109 {σ : rS} {k : Nat} {i x : Int} : OQ (sA σ 1109 i x) k = OQ σ k := by unfold OQ; simp only [TS_a109, LQ_a109, tr_a109]
theorem MI_a110 {σ : rS} {k : Nat} {i x : Int} : MI (sA σ 1110 i x) k = MI σ k := by unfold MI; simp only [TS_a110, LQ_a110, tr_a110]
theorem IG_a110 {σ : rS} {k : Nat} {i x : Int} : IG (sA σ 1110 i x) k = IG σ k := by unfold IG; simp only [TS_a110, LQ_a110, tr_a110]
theorem HQ_a110 {σ : rS} {k : Nat} {i x : Int} : HQ (sA σ 1110 i x) k = HQ σ k := by unfold HQ; simp only [TS_a110, LQ_a110, tr_a110]
theorem OQ_a110 {σ : rS} {k : Nat} {i x : Int} : OQ (sA σ 1110 i x) k = OQ σ k := by unfold OQ; simp only [TS_a110, LQ_a110, tr_a110]
theorem MI_a111 {σ : rS} {k : Nat} {i x : Int} : MI (sA σ 1111 i x) k = MI σ k := by unfold MI; simp only [TS_a111, LQ_a111, tr_a111]
theorem IG_a111 {σ : rS} {k : Nat} {i x : Int} : IG (sA σ 1111 i x) k = IG σ k := by unfold IG; simp only [TS_a111, LQ_a111, tr_a111]
theorem HQ_a111 {σ : rS} {k : Nat} {i x : Int} : HQ (sA σ 1111 i x) k = HQ σ k := by unfold HQ; simp only [TS_a111, LQ_a111, tr_a111]
theorem OQ_a111 {σ : rS} {k : Nat} {i x : Int} : OQ (sA σ 1111 i x) k = OQ σ k := by unfold OQ; simp only [TS_a111, LQ_a111, tr_a111]
theorem MI_a114 {σ : rS} {k : Nat} {i x : Int} : MI (sA σ 1114 i x) k = MI σ k := by unfold MI; simp only [TS_a114, LQ_a114, tr_a114]
theorem IG_a114 {σ : rS} {k : Nat} {i x : Int} : IG (sA σ 1114 i x) k = IG σ k := by unfold IG; simp only [TS_a114, LQ_a114, tr_a114]
theorem HQ_a114 {σ : rS} {k : Nat} {i x : Int} : HQ (sA σ 1114 i x) k = HQ σ k := by unfold HQ; simp only [TS_a114, LQ_a114, tr_a114]
theorem OQ_a114 {σ : rS} {k : Nat} {i x : Int} : OQ (sA σ 1114 i x) k = OQ σ k := by unfold OQ; simp only [TS_a114, LQ_a114, tr_a114]
theorem MI_a115 {σ : rS} {k : Nat} {i x : Int} : MI (sA σ 1115 i x) k = MI σ k := by unfold MI; simp only [TS_a115, LQ_a115, tr_a115]
theorem IG_a115 {σ : rS} {k : Nat} {i x : Int} : IG (sA σ 1115 i x) k = IG σ k := by unfold IG; simp only [TS_a115, LQ_a115, tr_a115]
theorem HQ_a115 {σ : rS} {k : Nat} {i x : Int} : HQ (sA σ 1115 i x) k = HQ σ k := by unfold HQ; simp only [TS_a115, LQ_a115, tr_a115]
theorem OQ_a115 {σ : rS} {k : Nat} {i x : Int} : OQ (sA σ 1115 i x) k = OQ σ k := by unfold OQ; simp only [TS_a115, LQ_a115, tr_a115]
theorem MI_a116 {σ : rS} {k : Nat} {i x : Int} : MI (sA σ 1116 i x) k = MI σ k := by unfold MI; simp only [TS_a116, LQ_a116, tr_a116]
theorem IG_a116 {σ : rS} {k : Nat} {i x : Int} : IG (sA σ 1116 i x) k = IG σ k := by unfold IG; simp only [TS_a116, LQ_a116, tr_a116]
theorem HQ_a116 {σ : rS} {k : Nat} {i x : Int} : HQ (sA σ 1116 i x) k = HQ σ k := by unfold HQ; simp only [TS_a116, LQ_a116, tr_a116]
theorem OQ_a116 {σ : rS} {k : Nat} {i x : Int} : OQ (sA σ 1116 i x) k = OQ σ k := by unfold OQ; simp only [TS_a116, LQ_a116, tr_a116]
theorem MI_a117 {σ : rS} {k : Nat} {i x : Int} : MI (sA σ 1117 i x) k = MI σ k := by unfold MI; simp only [TS_a117, LQ_a117, tr_a117]
theorem IG_a117 {σ : rS} {k : Nat} {i x : Int} : IG (sA σ 1117 i x) k = IG σ k := by unfold IG; simp only [TS_a117, LQ_a117, tr_a117]
theorem HQ_a117 {σ : rS} {k : Nat} {i x : Int} : HQ (sA σ 1117 i x) k = HQ σ k := by unfold HQ; simp only [TS_a117, LQ_a117, tr_a117]
theorem OQ_a117 {σ : rS} {k : Nat} {i x : Int} : OQ (sA σ 1117 i x) k = OQ σ k := by unfold OQ; simp only [TS_a117, LQ_a117, tr_a117]
theorem MI_a120 {σ : rS} {k : Nat} {i x : Int} : MI (sA σ 1120 i x) k = MI σ k := by unfold MI; simp only [TS_a120, LQ_a120, tr_a120]
theorem IG_a120 {σ : rS} {k : Nat} {i x : Int} : IG (sA σ 1120 i x) k = IG σ k := by unfold IG; simp only [TS_a120, LQ_a120, tr_a120]
theorem HQ_a120 {σ : rS} {k : Nat} {i x : Int} : HQ (sA σ 1120 i x) k = HQ σ k := by unfold HQ; simp only [TS_a120, LQ_a120, tr_a120]
theorem OQ_a120 {σ : rS} {k : Nat} {i x : Int} : OQ (sA σ 1120 i x) k = OQ σ k := by unfold OQ; simp only [TS_a120, LQ_a120, tr_a120]
theorem MI_a121 {σ : rS} {k : Nat} {i x : Int} : MI (sA σ 1121 i x) k = MI σ k := by unfold MI; simp only [TS_a121, LQ_a121, tr_a121]
theorem IG_a121 {σ : rS} {k : Nat} {i x : Int} : IG (sA σ 1121 i x) k = IG σ k := by unfold IG; simp only [TS_a121, LQ_a121, tr_a121]
theorem HQ_a121 {σ : rS} {k : Nat} {i x : Int} : HQ (sA σ 1121 i x) k = HQ σ k := by unfold HQ; simp only [TS_a121, LQ_a121, tr_a121]
theorem OQ_a121 {σ : rS} {k : Nat} {i x : Int} : OQ (sA σ 1121 i x) k = OQ σ k := by unfold OQ; simp only [TS_a121, LQ_a121, tr_a121]
theorem MI_a124 {σ : rS} {k : Nat} {i x : Int} : MI (sA σ 1124 i x) k = MI σ k := by unfold MI; simp only [TS_a124, LQ_a124, tr_a124]
theorem IG_a124 {σ : rS} {k : Nat} {i x : Int} : IG (sA σ 1124 i x) k = IG σ k := by unfold IG; simp only [TS_a124, LQ_a124, tr_a124]
theorem HQ_a124 {σ : rS} {k : Nat} {i x : Int} : HQ (sA σ 1124 i x) k = HQ σ k := by unfold HQ; simp only [TS_a124, LQ_a124, tr_a124]
theorem OQ_a124 {σ : rS} {k : Nat} {i x : Int} : OQ (sA σ 1124 i x) k = OQ σ k := by unfold OQ; simp only [TS_a124, LQ_a124, tr_a124]
theorem MI_a125 {σ : rS} {k : Nat} {i x : Int} : MI (sA σ 1125 i x) k = MI σ k := by unfold MI; simp only [TS_a125, LQ_a125, tr_a125]
theorem IG_a125 {σ : rS} {k : Nat} {i x : Int} : IG (sA σ 1125 i x) k = IG σ k := by unfold IG; simp only [TS_a125, LQ_a125, tr_a125]
theorem HQ_a125 {σ : rS} {k : Nat} {i x : Int} : HQ (sA σ 1125 i x) k = HQ σ k := by unfold HQ; simp only [TS_a125, LQ_a125, tr_a125]
theorem OQ_a125 {σ : rS} {k : Nat} {i x : Int} : OQ (sA σ 1125 i x) k = OQ σ k := by unfold OQ; simp only [TS_a125, LQ_a125, tr_a125]
theorem MI_a126 {σ : rS} {k : Nat} {i x : Int} : MI (sA σ 1126 i x) k = MI σ k := by unfold MI; simp only [TS_a126, LQ_a126, tr_a126]
theorem IG_a126 {σ : rS} {k : Nat} {i x : Int} : IG (sA σ 1126 i x) k = IG σ k := by unfold IG; simp only [TS_a126, LQ_a126, tr_a126]
theorem HQ_a126 {σ : rS} {k : Nat} {i x : Int} : HQ (sA σ 1126 i x) k = HQ σ k := by unfold HQ; simp only [TS_a126, LQ_a126, tr_a126]
theorem OQ_a126 {σ : rS} {k : Nat} {i x : Int} : OQ (sA σ 1126 i x) k = OQ σ k := by unfold OQ; simp only [TS_a126, LQ_a126, tr_a126]
theorem MI_a127 {σ : rS} {k : Nat} {i x : Int} : MI (sA σ 1127 i x) k = MI σ k := by unfold MI; simp only [TS_a127, LQ_a127, tr_a127]
theorem IG_a127 {σ : rS} {k : Nat} {i x : Int} : IG (sA σ 1127 i x) k = IG σ k := by unfold IG; simp only [TS_a127, LQ_a127, tr_a127]
theorem HQ_a127 {σ : rS} {k : Nat} {i x : Int} : HQ (sA σ 1127 i x) k = HQ σ k := by unfold HQ; simp only [TS_a127, LQ_a127, tr_a127]
theorem OQ_a127 {σ : rS} {k : Nat} {i x : Int} : OQ (sA σ 1127 i x) k = OQ σ k := by unfold OQ; simp only [TS_a127, LQ_a127, tr_a127]
theorem MI_a128 {σ : rS} {k : Nat} {i x : Int} : MI (sA σ 1128 i x) k = MI σ k := by unfold MI; simp only [TS_a128, LQ_a128, tr_a128]
theorem IG_a128 {σ : rS} {k : Nat} {i x : Int} : IG (sA σ 1128 i x) k = IG σ k := by unfold IG; simp only [TS_a128, LQ_a128, tr_a128]
theorem HQ_a128 {σ : rS} {k : Nat} {i x : Int} : HQ (sA σ 1128 i x) k = HQ σ k := by unfold HQ; simp only [TS_a128, LQ_a128, tr_a128]
theorem OQ_a128 {σ : rS} {k : Nat} {i x : Int} : OQ (sA σ 1128 i x) k = OQ σ k := by unfold OQ; simp only [TS_a128, LQ_a128, tr_a128]
theorem MI_a129 {σ : rS} {k : Nat} {i x : Int} : MI (sA σ 1129 i x) k = MI σ k := by unfold MI; simp only [TS_a129, LQ_a129, tr_a129]
theorem IG_a129 {σ : rS} {k : Nat} {i x : Int} : IG (sA σ 1129 i x) k = IG σ k := by unfold IG; simp only [TS_a129, LQ_a129, tr_a129]
theorem HQ_a129 {σ : rS} {k : Nat} {i x : Int} : HQ (sA σ 1129 i x) k = HQ σ k := by unfold HQ; simp only [TS_a129, LQ_a129, tr_a129]
theorem OQ_a129 {σ : rS} {k : Nat} {i x : Int} : OQ (sA σ 1129 i x) k = OQ σ k := by unfold OQ; simp only [TS_a129, LQ_a129, tr_a129]
theorem MI_a136 {σ : rS} {k : Nat} {i x : Int} : MI (sA σ 1136 i x) k = MI σ k := by unfold MI; simp only [TS_a136, LQ_a136, tr_a136]
theorem IG_a136 {σ : rS} {k : Nat} {i x : Int} : IG (sA σ 1136 i x) k = IG σ k := by unfold IG; simp only [TS_a136, LQ_a136, tr_a136]
theorem HQ_a136 {σ : rS} {k : Nat} {i x : Int} : HQ (sA σ 1136 i x) k = HQ σ k := by unfold HQ; simp only [TS_a136, LQ_a136, tr_a136]
theorem OQ_a136 {σ : rS} {k : Nat} {i x : Int} : OQ (sA σ 1136 i x) k = OQ σ k := by unfold OQ; simp only [TS_a136, LQ_a136, tr_a136]
theorem MI_a138 {σ : rS} {k : Nat} {i x : Int} : MI (sA σ 1138 i x) k = MI σ k := by unfold MI; simp only [TS_a138, LQ_a138, tr_a138]
theorem IG_a138 {σ : rS} {k : Nat} {i x : Int} : IG (sA σ 1138 i x) k = IG σ k := by unfold IG; simp only [TS_a138, LQ_a138, tr_a138]
theorem HQ_a138 {σ : rS} {k : Nat} {i x : Int} : HQ (sA σ 1138 i x) k = HQ σ k := by unfold HQ; simp only [TS_a138, LQ_a138, tr_a138]
theorem OQ_a138 {σ : rS} {k : Nat} {i x : Int} : OQ (sA σ 1138 i x) k = OQ σ k := by unfold OQ; simp only [TS_a138, LQ_a138, tr_a138]
