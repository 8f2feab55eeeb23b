def RT (s : rS) : rS := sF (sF s 0 38 0) 0 39 0
theorem RG.t0f {σ : rS} {k : Nat} (h1 : 0 ≤ rF σ 0 38) (h2 : 0 ≤ rF σ 0 39) : RG (RT σ) σ k 0 := by
  unfold RT RG RGf RGp RGw
  simp only [F_sF, F_sF_nq kq_0, F_sF_ne (show (38 : Nat) ≠ 39 by decide), F_sF_ne (show (39 : Nat) ≠ 38 by decide), F_sF_ne (show (7 : Nat) ≠ 39 by decide), F_sF_ne (show (32 : Nat) ≠ 39 by decide), F_sF_ne (show (7 : Nat) ≠ 38 by decide), F_sF_ne (show (32 : Nat) ≠ 38 by decide), zz_sF, tr_sF, rA_sF, ck3_sF]
  refine ⟨fun _ _ _ _ _ => ?_, ⟨fun _ _ => ?_, fun _ _ _ h => h, Int.le_refl _, Int.le_refl _, Int.le_refl _, fun _ _ => ?_⟩, h1, h2, fun _ _ => ⟨?_, ?_⟩, fun _ _ => ?_⟩ <;> first | trivial | rfl
theorem RG.tt {σ s t : rS} {k : Nat} (h' : RG (RT s) t k 0) (h : RG (RT σ) s k 0) : RG (RT σ) t k 0 := by
  unfold RT RG RGf RGp RGw at *
  simp only [F_sF, F_sF_nq kq_0, F_sF_ne (show (38 : Nat) ≠ 39 by decide), F_sF_ne (show (39 : Nat) ≠ 38 by decide), F_sF_ne (show (7 : Nat) ≠ 39 by decide), F_sF_ne (show (32 : Nat) ≠ 39 by decide), F_sF_ne (show (7 : Nat) ≠ 38 by decide), F_sF_ne (show (32 : Nat) ≠ 38 by decide), zz_sF, tr_sF, rA_sF, ck3_sF] at h h' ⊢
  obtain ⟨a, ⟨b1, b2, b3, b4, b5, b6⟩, w1, w2, w4, w5⟩ := h
  obtain ⟨a', ⟨b1', b2', b3', b4', b5', b6'⟩, w1', w2', w4', w5'⟩ := h'
  exact ⟨fun f i hf hi hc => (a' f i hf (by omega) (Or.inr (Or.inl trivial))).trans (a f i hf hi hc), ⟨fun i hi => (b1' i (by omega)).trans (b1 i hi), fun x n hx hz => b2' x n hx (b2 x n hx hz), by omega, by omega, by omega, fun i hi => (b6' i (by omega)).trans (b6 i hi)⟩, w1', w2', fun j hj => ⟨(w4' j hj).1.trans (w4 j hj).1, (w4' j hj).2.trans (w4 j hj).2⟩, fun j hj => (w5' j hj).trans (w5 j hj)⟩
theorem RG.tf {σ s : rS} {k f : Nat} {i : Int} (hk : rgk k) (h : RG (RT σ) s k 0) (hf : f < 6) (hi : i < rF σ k 7) : tr s k f i = tr σ k f i := by
  have e7 := kq_k hk
  have q := h.1 f i hf (by unfold RT; rw [e7, F_sF_ne (by decide), F_sF_ne (by decide)]; exact hi) (Or.inr (Or.inl rfl))
  unfold RT at q
  rw [tr_sF, tr_sF] at q; exact q
theorem RG.tn {σ s : rS} {k : Nat} (hk : rgk k) (h : RG (RT σ) s k 0) : rF σ k 7 ≤ rF s k 7 ∧ rF σ k 32 ≤ rF s k 32 ∧ rF σ k 38 ≤ rF s k 38 ∧ 0 ≤ rF s 0 38 ∧ 0 ≤ rF s 0 39 := by
  have e7 := kq_k hk
  have n0 := rk_n0 hk
  unfold RT RG RGf RGp RGw at h
  obtain ⟨a, ⟨b1, b2, b3, b4, b5, b6⟩, w1, w2, w4, w5⟩ := h
  simp only [e7, F_sF, F_sF_nq n0, F_sF_ne (show (38 : Nat) ≠ 39 by decide)] at b3 b4 b5 w1 w2
  exact ⟨b3, b4, b5, w1, w2⟩
theorem PNp.fz {s : rS} (h : PNp s) : rgk (rR s 7) := h.1
/-! a row without a parent: PARAMs of a template, ENTRYs of a dictionary -/
def VAL (N : Int) (g : Nat → Int → Int) (v : Int) : Prop := 0 < v ∧ v < N ∧ so 19 (g 0 v) ∧ g 2 v ≤ 9000
def TXT (N : Int) (g : Nat → Int → Int) (v : Int) : Prop := v = 0 ∨ (0 < v ∧ v < N ∧ g 0 v = 9 ∧ g 2 v ≤ 9000)
def DVL (N : Int) (t g : Nat → Int → Int) (K : Nat) (F : Int) : Prop := ∀ m, 0 < m → m < N → g 3 m = -F → (K = 52 → t 2 m = -1 ∨ VAL N g (t 2 m)) ∧ (K = 54 → VAL N g (t 3 m))
def DRLt (N : Int) (t g : Nat → Int → Int) (K : Nat) (F l n x : Int) : Prop := (F = 0 ∧ l = 0 ∧ n = 0) ∨ (F ≠ 0 ∧ ZLt N t g K F l n 0 x 0 ∧ DVL N t g K F)
def DRL (s : rS) (k : Nat) (g : Nat → Int → Int) (K : Nat) (F l n x : Int) : Prop := DRLt (rF s k 7) (tr s k) g K F l n x
def DRW (s : rS) (k : Nat) (g : Nat → Int → Int) (K : Nat) (F n : Int) : Prop := ∃ l x, DRL s k g K F l n x
theorem VAL.gk {N N' v : Int} {g g' : Nat → Int → Int} (V : VAL N g v) (h : GK g g' N N' 0) : VAL N' g' v := by
  obtain ⟨a, b, c, d⟩ := V
  have e := fun j => h.2.1 j v b (Or.inr (Or.inr rfl))
  exact ⟨a, by have := h.1; omega, by rw [e]; exact c, by rw [e]; exact d⟩
theorem TXT.gk {N N' v : Int} {g g' : Nat → Int → Int} (V : TXT N g v) (h : GK g g' N N' 0) : TXT N' g' v := by
  rcases V with V | ⟨a, b, c, d⟩
  · exact Or.inl V
  · have e := fun j => h.2.1 j v b (Or.inr (Or.inr rfl))
    exact Or.inr ⟨a, by have := h.1; omega, by rw [e]; exact c, by rw [e]; exact d⟩
theorem NR.val {s : rS} {k : Nat} {g : Nat → Int → Int} {v n0 lo hi d : Int} (V : NR s k g 19 v n0 lo hi d) : VAL (rF s k 7) g v := ⟨V.2.1, V.2.2.1, V.2.2.2.2.1, by have := V.2.2.2.2.2.2.1; have := V.2.2.2.2.2.2.2.1; omega⟩
theorem NR.txt {s : rS} {k : Nat} {g : Nat → Int → Int} {v n0 lo hi d : Int} (V : NR s k g 11 v n0 lo hi d) : TXT (rF s k 7) g v := Or.inr ⟨V.2.1, V.2.2.1, V.2.2.2.2.1, by have := V.2.2.2.2.2.2.1; have := V.2.2.2.2.2.2.2.1; omega⟩
theorem NR_re {s : rS} {k S S' : Nat} {g : Nat → Int → Int} {v n0 lo hi d : Int} (V : NR s k g S v n0 lo hi d) (h : so S' (g 0 v)) : NR s k g S' v n0 lo hi d := ⟨V.1, V.2.1, V.2.2.1, V.2.2.2.1, h, V.2.2.2.2.2⟩
theorem ZLt.gk0 {N N' F l n lo x d : Int} {K : Nat} {t t' g g' : Nat → Int → Int} (Z : ZLt N t g K F l n lo x d) (ht : ∀ m, 0 < m → m < N → t' 5 m = t 5 m) (h : GK g g' N N' 0) : ZLt N' t' g' K F l n lo x d := by
  obtain ⟨z1, z2, z3, z4, z5, z6, z7, z8, z9, z10, z11, z12, z13, z14, z15, z16⟩ := Z
  obtain ⟨a, b, b'⟩ := h
  have e := fun j m (hm : m < N) => b j m hm (Or.inr (Or.inr rfl))
  refine ⟨z1, by omega, by rw [e 3 F z2]; exact z3, by rw [e 5 F z2]; exact z4, by rw [e 8 F z2]; exact z5, z6, z7, z8, by omega, by rw [e 3 l z9]; exact z10, by rw [ht l z8 z9]; exact z11, by rw [e 5 l z9]; exact z12, z13, z14, z15, fun m h0 h1 h3 => ?_⟩
  by_cases hm : m < N
  · rw [e 3 m hm] at h3
    have q := z16 m h0 hm h3
    rw [e 0 m hm, e 4 m hm, e 1 m hm, e 2 m hm, e 8 m hm, e 5 m hm, ht m h0 hm]; exact q
  · have := b' m (by omega) h1; omega
theorem DRLt.gk {N N' F l n x : Int} {K : Nat} {t t' g g' : Nat → Int → Int} (D : DRLt N t g K F l n x) (ht : ∀ f m, f < 6 → 0 < m → m < N → t' f m = t f m) (h : GK g g' N N' 0) : DRLt N' t' g' K F l n x := by
  rcases D with D | ⟨h0, Z, V⟩
  · exact Or.inl D
  · refine Or.inr ⟨h0, ZLt.gk0 Z (fun m a b => ht 5 m (by decide) a b) h, fun m a b c => ?_⟩
    have z2 := Z.2.1
    have z1 := Z.1
    by_cases hm : m < N
    · rw [h.2.1 3 m hm (Or.inr (Or.inr rfl))] at c
      obtain ⟨v1, v2⟩ := V m a hm c
      rw [ht 2 m (by decide) a hm, ht 3 m (by decide) a hm]
      exact ⟨fun hK => (v1 hK).imp id (fun w => w.gk h), fun hK => (v2 hK).gk h⟩
    · have := h.2.2 m (by omega) b; omega
theorem DRL.gk {s t : rS} {k K : Nat} {g g' : Nat → Int → Int} {F l n x : Int} (hk : rgk k) (D : DRL s k g K F l n x) (R : RG s t k 0) (h : GK g g' (rF s k 7) (rF t k 7) 0) : DRL t k g' K F l n x := DRLt.gk D (fun f m hf _ hm => RG.f hk R hf hm (Or.inr (Or.inl rfl))) h
theorem DRL.gt {s t : rS} {k K : Nat} {g g' : Nat → Int → Int} {F l n x : Int} (hk : rgk k) (D : DRL s k g K F l n x) (R : RG (RT s) t k 0) (h : GK g g' (rF s k 7) (rF t k 7) 0) : DRL t k g' K F l n x := DRLt.gk D (fun f m hf _ hm => RG.tf hk R hf hm) h
theorem DRL.w {s : rS} {k K : Nat} {g : Nat → Int → Int} {F l n x : Int} (D : DRL s k g K F l n x) : DRW s k g K F n := ⟨l, x, D⟩
theorem DRW.gt {s t : rS} {k K : Nat} {g g' : Nat → Int → Int} {F n : Int} (hk : rgk k) (D : DRW s k g K F n) (R : RG (RT s) t k 0) (h : GK g g' (rF s k 7) (rF t k 7) 0) : DRW t k g' K F n := by
  obtain ⟨l, x, D⟩ := D
  exact ⟨l, x, D.gt hk R h⟩
theorem DRW.gk {s t : rS} {k K : Nat} {g g' : Nat → Int → Int} {F n : Int} (hk : rgk k) (D : DRW s k g K F n) (R : RG s t k 0) (h : GK g g' (rF s k 7) (rF t k 7) 0) : DRW t k g' K F n := by
  obtain ⟨l, x, D⟩ := D
  exact ⟨l, x, D.gk hk R h⟩
theorem DRW.cst {s : rS} {k K : Nat} {g : Nat → Int → Int} {F n F' n' : Int} (D : DRW s k g K F n) (h1 : F = F' := by omega) (h2 : n = n' := by omega) : DRW s k g K F' n' := by subst h1 h2; exact D
theorem DRL.x {s : rS} {k K : Nat} {g : Nat → Int → Int} {F l n x x' : Int} (D : DRL s k g K F l n x) (h : x ≤ x') (h2 : x' ≤ 9000) : DRL s k g K F l n x' := by
  rcases D with D | ⟨h0, Z, V⟩
  · exact Or.inl D
  · obtain ⟨z1, z2, z3, z4, z5, z6, z7, z8, z9, z10, z11, z12, z13, z14, z15, z16⟩ := Z
    refine Or.inr ⟨h0, ⟨z1, z2, z3, z4, z5, z6, z7, z8, z9, z10, z11, z12, z13, by omega, h2, fun m a b c => ?_⟩, V⟩
    have q := z16 m a b c
    exact ⟨q.1, q.2.1, q.2.2.1, q.2.2.2.1, by have := q.2.2.2.2.1; omega, q.2.2.2.2.2⟩
/-- closing another node leaves a row as it is -/
theorem DRL.kc {s : rS} {k K K2 : Nat} {g g' : Nat → Int → Int} {F l n x it d lo x2 y e : Int} (D : DRL s k g K F l n x) (O : OP s k g it K2 d lo x2 y e) (h : KC g g' it) : DRL s k g' K F l n x := by
  rcases D with D | ⟨h0, Z, V⟩
  · exact Or.inl D
  · obtain ⟨c1, c2⟩ := h
    have o2 := O.2.2.2.2.1
    obtain ⟨z1, z2, z3, z4, z5, z6, z7, z8, z9, z10, z11, z12, z13, z14, z15, z16⟩ := Z
    have ee := fun j m (hj : j ≠ 2) => c2 j m (Or.inr hj)
    have hn : ∀ m, g 3 m = -F → m ≠ it := fun m h3 E => by subst E; omega
    have w : ∀ v, VAL (rF s k 7) g v → VAL (rF s k 7) g' v := fun v hv => by
      have hi : v ≠ it := fun E => by subst E; have := hv.2.2.2; omega
      exact ⟨hv.1, hv.2.1, by rw [ee 0 v (by decide)]; exact hv.2.2.1, by rw [c2 2 v (Or.inl hi)]; exact hv.2.2.2⟩
    refine Or.inr ⟨h0, ⟨z1, z2, by rw [ee 3 F (by decide)]; exact z3, by rw [ee 5 F (by decide)]; exact z4, by rw [ee 8 F (by decide)]; exact z5, z6, z7, z8, z9, by rw [ee 3 l (by decide)]; exact z10, z11, by rw [ee 5 l (by decide)]; exact z12, z13, z14, z15, fun m a b c => ?_⟩, fun m a b c => ?_⟩
    · rw [ee 3 m (by decide)] at c
      rw [ee 0 m (by decide), ee 4 m (by decide), ee 1 m (by decide), ee 8 m (by decide), ee 5 m (by decide), c2 2 m (Or.inl (hn m c))]
      exact z16 m a b c
    · rw [ee 3 m (by decide)] at c
      obtain ⟨q1, q2⟩ := V m a b c
      exact ⟨fun hK => (q1 hK).imp id (w _), fun hK => w _ (q2 hK)⟩
theorem VAL.kz {N v F w : Int} {g g' : Nat → Int → Int} (V : VAL N g w) (Z : KZ g g' v F) : VAL N g' w := by
  obtain ⟨a1, a2, a3, a4, a5, a6⟩ := Z
  have e : ∀ j, j ≠ 3 → j ≠ 5 → j ≠ 8 → g' j w = g j w := fun j j3 j5 j8 => by
    by_cases q : w = v
    · subst q; exact a6 j j3 j5 j8
    · exact a5 j w q
  exact ⟨V.1, V.2.1, by rw [e 0 (by decide) (by decide) (by decide)]; exact V.2.2.1, by rw [e 2 (by decide) (by decide) (by decide)]; exact V.2.2.2⟩
/-- the first of a row -/
theorem EDI {P : Prop} {s : rS} {k K S : Nat} {g : Nat → Int → Int} {v n0 lo hi x : Int} (hS : ∀ q, so S q → q = (K : Int)) (hK : 10 ≤ K) (G : Im P (GS s k g)) (V : Im P (NR s k g S v n0 lo hi 0)) (D : Im P (DRL s k g K 0 0 0 x)) (hv : Im P ((K = 52 → tr s k 2 v = -1 ∨ VAL (rF s k 7) g (tr s k 2 v)) ∧ (K = 54 → VAL (rF s k 7) g (tr s k 3 v)))) (sd : Im P (0 ≤ lo)) : ∃ g', Im P (GS s k g' ∧ DRL s k g' K v v 1 hi ∧ KZ g g' v v) := by
  refine imx g (fun hp => ?_)
  have v' := V hp
  have G' := G hp
  have l0 := sd hp
  obtain ⟨v1, v2, v3, v4, v5, v6, v7, v8, v9⟩ := v'
  have be := gS.be (G'.1 v v2 v3).1
  obtain ⟨g', a1, a2, a3⟩ := ZL.init (K := K) (S := S) hS hK G'.1 ⟨v1, v2, v3, v4, v5, by omega, v7, v8, v9⟩ (lo := 0) ⟨Int.le_refl _, by omega⟩
  refine ⟨g', ⟨a1, GQ.kz G'.2 a3⟩, Or.inr ⟨by omega, a2, fun m m0 m1 m3 => ?_⟩, a3⟩
  have q := a2.2.2.2.2.2.2.2.2.2.2.2.2.2.2.2 m m0 m1 m3
  have hm : m = v := by
    by_cases e : m = v
    · exact e
    · rw [a3.2.2.2.2.1 3 m e] at m3
      rcases (G'.1 m m0 m1).2.1 with u | u
      · have w := u.2 (by omega)
        have e2 : -(g 3 m) = v := by omega
        rw [e2] at w; omega
      · have := u.1; omega
  subst hm
  obtain ⟨w1, w2⟩ := hv hp
  exact ⟨fun h => (w1 h).imp id (fun w => w.kz a3), fun h => (w2 h).kz a3⟩
/-- one more of a row -/
theorem EDA {P : Prop} {s : rS} {k K S : Nat} {g : Nat → Int → Int} {F l n v n0 lo hi x : Int} (hk : rgk k) (hS : ∀ q, so S q → q = (K : Int)) (hK : 10 ≤ K) (G : Im P (GS s k g)) (V : Im P (NR s k g S v n0 lo hi 0)) (D : Im P (DRL s k g K F l n x)) (hl : Im P (l ≠ 0 ∧ l < v ∧ x < lo)) (hv : Im P ((K = 52 → tr s k 2 v = -1 ∨ VAL (rF s k 7) g (tr s k 2 v)) ∧ (K = 54 → VAL (rF s k 7) g (tr s k 3 v)))) : ∃ g', Im P (GS (sT s k 5 l v) k g' ∧ DRL (sT s k 5 l v) k g' K F v (n + 1) hi ∧ KZ g g' v F) := by
  refine imx g (fun hp => ?_)
  have v' := V hp
  have G' := G hp
  obtain ⟨l0, lv, xl⟩ := hl hp
  rcases D hp with q | ⟨h0, Z, W⟩
  · exact absurd q.2.1 l0
  obtain ⟨g', a1, a2, a3⟩ := ZL.app (K := K) (S := S) hS hK G'.1 Z v' xl lv
  refine ⟨g', ⟨?_, GQ.kz5 hk G'.2 a3⟩, Or.inr ⟨h0, ?_, fun m m0 m1 m3 => ?_⟩, a3⟩
  · unfold GS0; rw [tr_u hk (by decide)]; exact a1
  · rw [tr_u hk (by decide)]; exact a2
  · have t2 : tr (sT s k 5 l v) k 2 m = tr s k 2 m := tr_ne hk (Or.inl (by decide))
    have t3 : tr (sT s k 5 l v) k 3 m = tr s k 3 m := tr_ne hk (Or.inl (by decide))
    rw [t2, t3]
    by_cases e : m = v
    · subst e
      obtain ⟨w1, w2⟩ := hv hp
      exact ⟨fun h => (w1 h).imp id (fun w => w.kz a3), fun h => (w2 h).kz a3⟩
    · rw [a3.2.2.2.2.1 3 m e] at m3
      obtain ⟨w1, w2⟩ := W m m0 m1 m3
      exact ⟨fun h => (w1 h).imp id (fun w => w.kz a3), fun h => (w2 h).kz a3⟩
theorem GI.c2 {N nm it : Int} {t t' g : Nat → Int → Int} (G : GI N nm t g) (hK : g 0 it = 52) (ht : ∀ f i, (f ≠ 2 ∨ i ≠ it) → t' f i = t f i) : GI N nm t' g := by
  intro m h0 h1
  obtain ⟨s, u, c, o, x, n, z⟩ := G m h0 h1
  have e := fun f (h3 : f ≠ 2) => ht f m (Or.inl h3)
  by_cases hm : m = it
  · subst hm
    refine ⟨?_, u, ?_, ?_, ?_, ?_, ?_⟩
    · unfold gS at *
      rw [e 0 (by decide), e 1 (by decide), e 3 (by decide), e 4 (by decide)]
      obtain ⟨s1, s2, s3, s4, s5, s6, s7, s8, s9, s10, s11, s12, s13, s14, s15, s16, s17⟩ := s
      exact ⟨s1, s2, s3, s4, s5, s6, s7, s8, s9, s10, s11, s12, fun h => absurd h (by omega), s14, s15, s16, s17⟩
    · intro f K' hf hK'
      have : K' = 52 := by omega
      subst this
      have h13 := tb_13 hf
      have : f = 1 ∨ f = 2 ∨ f = 3 := by omega
      rcases this with rfl | rfl | rfl <;> exact absurd rfl hf
    · intro K' hK' hO
      have : K' = 52 := by omega
      subst this
      exact absurd hO (by decide)
    · unfold gX at *; rw [e 5 (by decide)]; exact x
    · unfold gN at *; rw [e 5 (by decide)]; exact n
    · unfold gG at *; rw [e 1 (by decide)]; exact z
  · have e2 := fun f => ht f m (Or.inr hm)
    refine ⟨?_, u, fun f K' hf hK' => by rw [e2]; exact c f K' hf hK', ?_, ?_, ?_, ?_⟩
    · unfold gS at *; rw [e2, e2, e2, e2, e2]; exact s
    · unfold gO at *; rw [e2, e2, e2]; exact o
    · unfold gX at *; rw [e2]; exact x
    · unfold gN at *; rw [e2]; exact n
    · unfold gG at *; rw [e2]; exact z
theorem GS.c2 {s : rS} {k : Nat} {g : Nat → Int → Int} {it z : Int} (hk : rgk k) (G : GS s k g) (hK : g 0 it = 52) : GS (sT s k 2 it z) k g := by
  refine ⟨?_, GQ.stt hk (by decide) G.2 (Or.inr (Or.inl (by omega)))⟩
  unfold GS0; rw [tr_u hk (by decide)]
  exact GI.c2 G.1 hK (fun f i h => udt_ne h)
theorem GS.c3e {s : rS} {k : Nat} {g : Nat → Int → Int} {it z : Int} (hk : rgk k) (G : GS s k g) (hK : g 0 it = 54) : GS (sT s k 3 it z) k g := by
  refine ⟨?_, GQ.stt hk (by decide) G.2 (Or.inl (by decide))⟩
  unfold GS0; rw [tr_u hk (by decide)]
  exact GI.c3 (K := 54) G.1 hK (by decide) (fun f i _ _ _ h => udt_ne h)
/-- b of a PARAM of the row -/
theorem DRL.b {s : rS} {k : Nat} {g : Nat → Int → Int} {F l n x p z : Int} (hk : rgk k) (D : DRL s k g 52 F l n x) (hz : z = -1 ∨ VAL (rF s k 7) g z) : DRL (sT s k 2 p z) k g 52 F l n x := by
  rcases D with D | ⟨h0, Z, V⟩
  · exact Or.inl D
  · refine Or.inr ⟨h0, ?_, fun m a b c => ⟨fun _ => ?_, fun h => absurd h (by decide)⟩⟩
    · obtain ⟨z1, z2, z3, z4, z5, z6, z7, z8, z9, z10, z11, z12, z13, z14, z15, z16⟩ := Z
      have e5 : ∀ m, tr (sT s k 2 p z) k 5 m = tr s k 5 m := fun m => tr_ne hk (Or.inl (by decide))
      refine ⟨z1, z2, z3, z4, z5, z6, z7, z8, z9, z10, by rw [e5]; exact z11, z12, z13, z14, z15, fun m a b c => ?_⟩
      rw [e5]; exact z16 m a b c
    · show tr (sT s k 2 p z) k 2 m = -1 ∨ VAL (rF s k 7) g (tr (sT s k 2 p z) k 2 m)
      by_cases e : m = p
      · subst e; rw [tr_sT hk (by decide), if_pos ⟨rfl, rfl⟩]; exact hz
      · rw [tr_ne hk (Or.inr e)]; exact (V m a b c).1 rfl
theorem DRL.c {s : rS} {k : Nat} {g : Nat → Int → Int} {F l n x p z : Int} (hk : rgk k) (D : DRL s k g 54 F l n x) (hp : g 3 p = 0) : DRL (sT s k 3 p z) k g 54 F l n x := by
  rcases D with D | ⟨h0, Z, V⟩
  · exact Or.inl D
  · have zF := Z.1
    refine Or.inr ⟨h0, ?_, fun m a b c => ⟨fun h => absurd h (by decide), fun _ => ?_⟩⟩
    · obtain ⟨z1, z2, z3, z4, z5, z6, z7, z8, z9, z10, z11, z12, z13, z14, z15, z16⟩ := Z
      have e5 : ∀ m, tr (sT s k 3 p z) k 5 m = tr s k 5 m := fun m => tr_ne hk (Or.inl (by decide))
      refine ⟨z1, z2, z3, z4, z5, z6, z7, z8, z9, z10, by rw [e5]; exact z11, z12, z13, z14, z15, fun m a b c => ?_⟩
      rw [e5]; exact z16 m a b c
    · have e : m ≠ p := fun E => by subst E; omega
      show VAL (rF s k 7) g (tr (sT s k 3 p z) k 3 m)
      rw [tr_ne hk (Or.inr e)]; exact (V m a b c).2 rfl
/-! a row that is gone along, under no condition -/
def RQD (s : rS) (k K : Nat) (F p : Int) : Prop := ∃ g l n x, GS s k g ∧ DRL s k g K F l n x ∧ (p = 0 ∨ (0 < p ∧ p < rF s k 7 ∧ g 3 p = -F ∧ 0 < F))
theorem RQD.init {s : rS} {k K : Nat} {g : Nat → Int → Int} {F l n x : Int} (G : GS s k g) (D : DRL s k g K F l n x) : RQD s k K F F := by
  refine ⟨g, l, n, x, G, D, ?_⟩
  rcases D with D | ⟨h0, Z, V⟩
  · exact Or.inl D.1
  · exact Or.inr ⟨Z.1, Z.2.1, Z.2.2.1, Z.1⟩
theorem RQD.rd {s : rS} {k K : Nat} {F p : Int} (h : RQD s k K F p) : p = 0 ∨ 0 < p ∧ p < rF s k 7 := by
  obtain ⟨g, l, n, x, a, b, c⟩ := h; omega
theorem RQD.key {s : rS} {k K : Nat} {F F' p p' : Int} (h : RQD s k K F p) (e : F' = F) (e2 : p' = p) : RQD s k K F' p' := by subst e e2; exact h
theorem RQD.nxt {s : rS} {k K : Nat} {F p : Int} (hK : 10 ≤ K) (h : RQD s k K F p) (hp : p ≠ 0) : RQD s k K F (tr s k 5 p) ∧ (tr s k 5 p = 0 ∨ p < tr s k 5 p ∧ tr s k 5 p < rF s k 7) := by
  obtain ⟨g, l, n, x, a, b, c⟩ := h
  rcases c with c | ⟨c1, c2, c3, c4⟩
  · exact absurd c hp
  rcases b with b | ⟨h0, Z, V⟩
  · have := b.1; omega
  · have q := Z.2.2.2.2.2.2.2.2.2.2.2.2.2.2.2 p c1 c2 c3
    rcases (a.1 p c1 c2).2.2.2.2.1 with w | ⟨x1, x2, x3, x4, x5, x6, x7, x8⟩
    · exact ⟨⟨g, l, n, x, a, Or.inr ⟨h0, Z, V⟩, Or.inl w⟩, Or.inl w⟩
    · have y := (x7 (by have := q.2.1; omega)).2.2
      exact ⟨⟨g, l, n, x, a, Or.inr ⟨h0, Z, V⟩, Or.inr ⟨x1, x2, x4.trans c3, c4⟩⟩, Or.inr ⟨y, x2⟩⟩
theorem RQD.ent {s : rS} {k : Nat} {F p : Int} (hk : rgk k) (h : RQD s k 54 F p) (hp : p ≠ 0) : 0 ≤ rA s (1000 * (k + 1) + 1) p ∧ rA s (1000 * (k + 1) + 1) p + rA s (1000 * (k + 1) + 2) p ≤ 60000 := by
  obtain ⟨g, l, n, x, a, b, c⟩ := h
  rcases c with c | ⟨c1, c2, c3, c4⟩
  · exact absurd c hp
  rw [tr_rd hk (Or.inl (by decide)), tr_rd hk (Or.inl (by decide))]
  have s1 := (a.1 p c1 c2).1
  unfold gS at s1
  have s2 := s1.2.2.2.2.2.2.2.2.2.2.2.2.1
  rcases b with b | ⟨h0, Z, V⟩
  · have := b.1; omega
  · have q := Z.2.2.2.2.2.2.2.2.2.2.2.2.2.2.2 p c1 c2 c3
    have := s2 (Or.inr q.2.1)
    omega
theorem RQD.mv {s t : rS} {k K : Nat} {F p : Int} (hk : rgk k) (h : RQD s k K F p) (R : RG s t k 0) (hN : rF t k 7 = rF s k 7 := by first | assumption | omega) (hn : rF s k 12 ≤ rF t k 12 := by omega) (hC : rF t k 38 = rF s k 38 := by first | assumption | omega) : RQD t k K F p := by
  obtain ⟨g, l, n, x, a, b, c⟩ := h
  exact ⟨g, l, n, x, GS.mv hk a R hN hn hC, DRL.gk hk b R (GK.up hN), by rw [hN]; exact c⟩
theorem dig_X14_skip {σ s : rS} (q : post_X14_skip σ s) : rF σ 0 17 ≤ rF s 0 17 ∧ rF s 0 17 ≤ rF σ 0 16 ∧ fz σ ≤ fz s := by
  unfold post_X14_skip at q
  exact ⟨q.1, q.2.1, fz_le q.2.2⟩
theorem dig_X14_sign {σ s : rS} {n : Nat} (q : post_X14_sign σ n s) : rF σ 0 17 ≤ rF s 0 17 ∧ rF s 0 17 ≤ rF σ 0 16 ∧ fz σ ≤ fz s ∧ rF σ 0 17 + 1 ≤ rF s 0 17 + fz s := by
  unfold post_X14_sign at q
  refine ⟨q.1, q.2.1, fz_le q.2.2.1, ?_⟩
  by_cases e : rF s 0 10 = 0
  · rw [fz_z e]; have := q.2.2.2 e; omega
  · rw [fz_n e]; omega
def TPqp (σ : rS) : Prop := ∀ i, 0 ≤ i → i < rF σ 0 28 → 0 ≤ rA σ 1027 i ∧ rA σ 1027 i ≤ 4000
theorem CCp.mk {s : rS} (h : TPqp s) (h1 : 0 ≤ rF s 0 30 ∧ rF s 0 30 ≤ 4000 ∧ 0 ≤ rF s 0 28 ∧ rF s 0 28 ≤ 4001 ∧ 0 ≤ rF s 0 14 ∧ rF s 0 14 ≤ 7 ∧ 0 ≤ rF s 0 19 ∧ -1 ≤ rF s 0 32 ∧ rF s 0 32 < 320 ∧ -1 ≤ rF s 0 33 ∧ rF s 0 33 < 320) : CCp s := by
  obtain ⟨a, b, c⟩ := h1
  exact ⟨⟨a, b, h⟩, c⟩
theorem TPqp.z {s : rS} (h : rF s 0 28 = 0) : TPqp s := fun i h0 h1 => absurd h1 (by omega)
theorem TPqp.mv {s t : rS} (h : TPqp s) (h1 : rF t 0 28 = rF s 0 28) (h2 : ∀ i, rA t 1027 i = rA s 1027 i) : TPqp t := fun i a b => by rw [h2]; exact h i a (by omega)
theorem TPqp.add {s : rS} {b p : Int} (h : TPqp s) (h1 : 0 ≤ p ∧ p ≤ 4000) : TPqp (sF (sA (sA s 1026 (rF s 0 28) b) 1027 (rF s 0 28) p) 0 28 (rF s 0 28 + 1)) := fun i a c => by
  rw [F_sF] at c
  rw [rA_sF, rA_sA]
  split
  · exact h1
  · rename_i e
    rw [rA_sA, if_neg (by omega)]
    exact h i a (by omega)
theorem WNp.z38 {s : rS} : WNp (sF s 0 38 0) := by
  unfold WNp
  intro j h0 h1
  rw [F_sF] at h1
  omega
theorem CCp.mk5 {s : rS} {x : Int} (h : TPqp s) (h1 : 0 ≤ x ∧ x ≤ 4000 ∧ 0 ≤ rF s 0 28 ∧ rF s 0 28 ≤ 4001 ∧ 0 ≤ rF s 0 14 ∧ rF s 0 14 ≤ 7 ∧ 0 ≤ rF s 0 19 ∧ -1 ≤ rF s 0 32 ∧ rF s 0 32 < 320 ∧ -1 ≤ rF s 0 33 ∧ rF s 0 33 < 320) : CCp (sF s 0 30 x) := CCp.mk (fun i a b => h i a (by rw [F_sF_ne (by decide)] at b; exact b)) (by simp only [rF_sF, Nat.reduceEqDiff, and_false, and_true, and_self, reduceIte]; exact h1)
theorem RG.rt5 {σ s : rS} {k : Nat} {a b c : Int} (h : RG (sF (sF (sF (sF (sF σ 0 30 c) 0 29 a) 0 31 b) 0 38 0) 0 39 0) s k 0) : RG (RT σ) s k 0 := by
  unfold RT RG RGf RGp RGw at *
  simp only [F_sF, F_sF_nq kq_0, F_sF_ne (show (38 : Nat) ≠ 39 by decide), F_sF_ne (show (39 : Nat) ≠ 38 by decide), F_sF_ne (show (7 : Nat) ≠ 39 by decide), F_sF_ne (show (32 : Nat) ≠ 39 by decide), F_sF_ne (show (7 : Nat) ≠ 38 by decide), F_sF_ne (show (32 : Nat) ≠ 38 by decide), zz_sF, tr_sF, rA_sF, ck3_sF] at h ⊢
  exact h
theorem DRL.wc {s : rS} {k K : Nat} {g : Nat → Int → Int} {F l n x F' n' : Int} (D : DRL s k g K F l n x) (h1 : F = F' := by omega) (h3 : n = n' := by omega) : DRW s k g K F' n' := by subst h1 h3; exact D.w
theorem DRW.z {s : rS} {k K : Nat} {g : Nat → Int → Int} {F n : Int} (h1 : F = 0) (h2 : n = 0) : DRW s k g K F n := ⟨0, 0, Or.inl ⟨h1, rfl, h2⟩⟩
theorem DRL.l0 {s : rS} {k K : Nat} {g : Nat → Int → Int} {F l n x : Int} (D : DRL s k g K F l n x) (h : l = 0) : F = 0 ∧ n = 0 := by
  rcases D with D | ⟨h0, Z, V⟩
  · exact ⟨D.1, D.2.2⟩
  · have := Z.2.2.2.2.2.2.2.1; omega
theorem DRL.rd {s : rS} {k K : Nat} {g : Nat → Int → Int} {F l n x : Int} (D : DRL s k g K F l n x) : (F = 0 ∧ l = 0 ∧ n = 0) ∨ (0 < F ∧ F < rF s k 7 ∧ 0 < l ∧ l < rF s k 7 ∧ 1 ≤ n) := by
  rcases D with D | ⟨h0, Z, V⟩
  · exact Or.inl D
  · exact Or.inr ⟨Z.1, Z.2.1, Z.2.2.2.2.2.2.2.1, Z.2.2.2.2.2.2.2.2.1, Z.2.2.2.2.2.1⟩
theorem RG.rt4 {σ s : rS} {k : Nat} {a b : Int} (h : RG (sF (sF (sF (sF σ 0 29 a) 0 31 b) 0 38 0) 0 39 0) s k 0) : RG (RT σ) s k 0 := by
  unfold RT RG RGf RGp RGw at *
  simp only [F_sF, F_sF_nq kq_0, F_sF_ne (show (38 : Nat) ≠ 39 by decide), F_sF_ne (show (39 : Nat) ≠ 38 by decide), F_sF_ne (show (7 : Nat) ≠ 39 by decide), F_sF_ne (show (32 : Nat) ≠ 39 by decide), F_sF_ne (show (7 : Nat) ≠ 38 by decide), F_sF_ne (show (32 : Nat) ≠ 38 by decide), zz_sF, tr_sF, rA_sF, ck3_sF] at h ⊢
  exact h
theorem DRL.cst {s : rS} {k K : Nat} {g : Nat → Int → Int} {F l n x F' l' n' x' : Int} (D : DRL s k g K F l n x) (h1 : F = F' := by omega) (h2 : l = l' := by omega) (h3 : n = n' := by omega) (h4 : x ≤ x' := by omega) (h5 : x' ≤ 9000 := by omega) : DRL s k g K F' l' n' x' := by
  subst h1 h2 h3
  exact D.x h4 h5
theorem NR_re19 {s : rS} {k S K : Nat} {g g' : Nat → Int → Int} {v n0 lo hi d d' lo' x y e : Int} (V : NR s k g' S v n0 lo hi d) (C : KC g g' v) (O : OP s k g v K d' lo' x y e) (h : so 19 (K : Int)) : NR s k g' 19 v n0 lo hi d := NR_re V (by rw [C.2 0 v (Or.inr (by decide)), O.2.2.1]; exact h)
/-! tables of definitions -/
def inD (s : rS) (k : Nat) (d : Int) : Prop := 0 ≤ d ∧ d < 320 ∧ d % 40 < rA s (1000 * (k + 1) + 24) (d / 40)
def DD (s : rS) (k : Nat) (g : Nat → Int → Int) (d : Int) : Prop :=
  (rA s (1000 * (k + 1) + 15) d = 0 ∧ TXT (rF s k 7) g (rA s (1000 * (k + 1) + 18) d) ∧ DRW s k g 52 (rA s (1000 * (k + 1) + 19) d) (rA s (1000 * (k + 1) + 20) d) ∧ rA s (1000 * (k + 1) + 20) d ≤ 12) ∨
  (rA s (1000 * (k + 1) + 15) d = 1 ∧ TXT (rF s k 7) g (rA s (1000 * (k + 1) + 18) d)) ∨ rA s (1000 * (k + 1) + 15) d = 2 ∨
  (rA s (1000 * (k + 1) + 15) d = 3 ∧ DRW s k g 54 (rA s (1000 * (k + 1) + 18) d) (rA s (1000 * (k + 1) + 20) d) ∧ (rA s (1000 * (k + 1) + 21) d = 0 ∨ VAL (rF s k 7) g (rA s (1000 * (k + 1) + 21) d)))
def DT (s : rS) (k : Nat) (g : Nat → Int → Int) : Prop := ∀ d, inD s k d → DD s k g d
theorem DD.gt {s t : rS} {k : Nat} {g g' : Nat → Int → Int} {d : Int} (hk : rgk k) (D : DD s k g d) (R : RG (RT s) t k 0) (h : GK g g' (rF s k 7) (rF t k 7) 0) (e15 : rA t (1000 * (k + 1) + 15) d = rA s (1000 * (k + 1) + 15) d) (e18 : rA t (1000 * (k + 1) + 18) d = rA s (1000 * (k + 1) + 18) d) (e19 : rA t (1000 * (k + 1) + 19) d = rA s (1000 * (k + 1) + 19) d) (e20 : rA t (1000 * (k + 1) + 20) d = rA s (1000 * (k + 1) + 20) d) (e21 : rA t (1000 * (k + 1) + 21) d = rA s (1000 * (k + 1) + 21) d) : DD t k g' d := by
  unfold DD at *
  rw [e15, e18, e19, e20, e21]
  rcases D with ⟨a, b, c, e⟩ | ⟨a, b⟩ | a | ⟨a, b, c⟩
  · exact Or.inl ⟨a, b.gk h, c.gt hk R h, e⟩
  · exact Or.inr (Or.inl ⟨a, b.gk h⟩)
  · exact Or.inr (Or.inr (Or.inl a))
  · exact Or.inr (Or.inr (Or.inr ⟨a, b.gt hk R h, c.imp id (fun w => w.gk h)⟩))
theorem DT.add {s t : rS} {k : Nat} {g g' : Nat → Int → Int} {x f : Int} (hk : rgk k) (D : DT s k g) (R : RG (RT s) t k 0) (h : GK g g' (rF s k 7) (rF t k 7) 0) (hf : 0 ≤ f ∧ f ≤ 7) (hx : x = 40 * f + rA s (1000 * (k + 1) + 24) f) (e24 : ∀ i, i ≠ f → rA t (1000 * (k + 1) + 24) i = rA s (1000 * (k + 1) + 24) i) (m24 : rA t (1000 * (k + 1) + 24) f ≤ rA s (1000 * (k + 1) + 24) f + 1) (m0 : 0 ≤ rA s (1000 * (k + 1) + 24) f) (e15 : ∀ d, d ≠ x → rA t (1000 * (k + 1) + 15) d = rA s (1000 * (k + 1) + 15) d) (e18 : ∀ d, d ≠ x → rA t (1000 * (k + 1) + 18) d = rA s (1000 * (k + 1) + 18) d) (e19 : ∀ d, d ≠ x → rA t (1000 * (k + 1) + 19) d = rA s (1000 * (k + 1) + 19) d) (e20 : ∀ d, d ≠ x → rA t (1000 * (k + 1) + 20) d = rA s (1000 * (k + 1) + 20) d) (e21 : ∀ d, d ≠ x → rA t (1000 * (k + 1) + 21) d = rA s (1000 * (k + 1) + 21) d) (hn : DD t k g' x) : DT t k g' := by
  intro d hd
  by_cases e : d = x
  · rw [e]; exact hn
  · obtain ⟨d0, d1, d2⟩ := hd
    refine (D d ⟨d0, d1, ?_⟩).gt hk R h (e15 d e) (e18 d e) (e19 d e) (e20 d e) (e21 d e)
    by_cases ef : d / 40 = f
    · rw [ef] at d2 ⊢; omega
    · rw [e24 _ ef] at d2; exact d2
/-! the files' bytes stay -/
def FLk (s t : rS) : Prop := ∀ (p : Nat) (i : Int), 5000 ≤ p → rA t p i = rA s p i
/-! imports of a file: distinct, none on the way -/
theorem php : ∀ (m n : Nat) (f : Nat → Int), (∀ i, i < n → 0 ≤ f i ∧ f i < (m : Int)) → (∀ i j, i < j → j < n → f i ≠ f j) → n ≤ m := by
  intro m
  induction m with
  | zero =>
    intro n f h1 h2
    by_cases hn : n = 0
    · omega
    · have := h1 0 (by omega); omega
  | succ m ih =>
    intro n f h1 h2
    by_cases hn : n = 0
    · omega
    · have l := h1 (n - 1) (by omega)
      have q := ih (n - 1) (fun i => if f i = (m : Int) then f (n - 1) else f i) (fun i hi => by
        have a := h1 i (by omega)
        have b := h2 i (n - 1) (by omega) (by omega)
        show 0 ≤ (if f i = (m : Int) then f (n - 1) else f i) ∧ (if f i = (m : Int) then f (n - 1) else f i) < (m : Int)
        split <;> omega) (fun i j hij hj => by
        have a := h2 i j hij (by omega)
        have b := h2 i (n - 1) (by omega) (by omega)
        have c := h2 j (n - 1) (by omega) (by omega)
        show (if f i = (m : Int) then f (n - 1) else f i) ≠ (if f j = (m : Int) then f (n - 1) else f j)
        split <;> split <;> omega)
      omega

/-- imports of file f: numbers of files, none twice, none on the way -/
def IPf (im mn ow : Int → Int) (f : Int) : Prop := 0 ≤ mn f ∧ mn f ≤ 8 ∧ (∀ i, 0 ≤ i → i < mn f → 0 ≤ im (500 * f + i) ∧ im (500 * f + i) ≤ 7 ∧ ow (im (500 * f + i)) = 0) ∧ (∀ i j, 0 ≤ i → i < j → j < mn f → im (500 * f + i) ≠ im (500 * f + j))
def NMT (im : Int → Int) (b i it was : Int) : Prop := was = 0 → ∀ j, 0 ≤ j → j < i → im (b + j) ≠ it
theorem NMT.z {im : Int → Int} {b it was : Int} : NMT im b 0 it was := fun _ j h0 h1 => absurd h1 (by omega)
theorem NMT.s {im : Int → Int} {b i it was was' : Int} (h : NMT im b i it was) (w : was' = 0 → was = 0 ∧ im (b + i) ≠ it) : NMT im b (i + 1) it was' := fun e j h0 h1 => by
  obtain ⟨a, c⟩ := w e
  by_cases q : j = i
  · rw [q]; exact c
  · exact h a j h0 (by omega)
theorem IPf.add {im mn ow im' mn' ow' : Int → Int} {f it : Int} (h : IPf im mn ow f) (h1 : ∀ i, 0 ≤ i → i < mn f → im (500 * f + i) ≠ it) (h2 : 0 ≤ it ∧ it ≤ 7) (h3 : ow it = 0) (e1 : ∀ i, im' i = if i = 500 * f + mn f then it else im i) (e2 : mn' f = mn f + 1) (e3 : ∀ i, ow' i = ow i) : IPf im' mn' ow' f := by
  obtain ⟨a, b, c, d⟩ := h
  have eo : ∀ i, i < mn f → im' (500 * f + i) = im (500 * f + i) := fun i hi => by rw [e1, if_neg (by omega)]
  have en : im' (500 * f + mn f) = it := by rw [e1, if_pos rfl]
  have p1 : ∀ i, 0 ≤ i → i < mn' f → 0 ≤ im' (500 * f + i) ∧ im' (500 * f + i) ≤ 7 ∧ ow' (im' (500 * f + i)) = 0 := fun i i0 i1 => by
    rw [e3]
    by_cases q : i = mn f
    · rw [q, en]; exact ⟨h2.1, h2.2, h3⟩
    · rw [eo i (by omega)]; exact c i i0 (by omega)
  have p2 : ∀ i j, 0 ≤ i → i < j → j < mn' f → im' (500 * f + i) ≠ im' (500 * f + j) := fun i j i0 ij j1 => by
    by_cases q : j = mn f
    · rw [q, en, eo i (by omega)]; exact h1 i i0 (by omega)
    · rw [eo i (by omega), eo j (by omega)]; exact d i j i0 ij (by omega)
  refine ⟨by omega, ?_, p1, p2⟩
  have := php 8 (mn' f).toNat (fun i => im' (500 * f + (i : Int))) (fun i hi => by
    have := p1 (i : Int) (by omega) (by omega)
    show 0 ≤ im' (500 * f + (i : Int)) ∧ im' (500 * f + (i : Int)) < ((8 : Nat) : Int)
    omega) (fun i j ij hj => p2 (i : Int) (j : Int) (by omega) (by omega) (by omega))
  omega
theorem IPf.mv {im mn ow im' mn' ow' : Int → Int} {f f' : Int} (h : IPf im mn ow f) (e0 : f' = f) (e1 : ∀ i, im' i = im i) (e2 : ∀ i, mn' i = mn i) (e3 : ∀ i, ow' i = ow i) : IPf im' mn' ow' f' := by
  subst e0
  obtain ⟨a, b, c, d⟩ := h
  refine ⟨by rw [e2]; exact a, by rw [e2]; exact b, fun i i0 i1 => ?_, fun i j i0 ij j1 => ?_⟩
  · rw [e2] at i1; rw [e1, e3]; exact c i i0 i1
  · rw [e2] at j1; rw [e1, e1]; exact d i j i0 ij j1
theorem DT_F0 {σ : rS} {k : Nat} {x : Int} : DT (sF σ 0 0 x) k = DT σ k := by
  funext g; unfold DT inD DD DRW DRL; simp only [rA_sF, tr_sF, F_sF_ne (show (7 : Nat) ≠ 0 by decide)]
theorem DT_a1 {σ : rS} {k : Nat} {i x : Int} (hk : rgk k) : DT (sA σ 1001 i x) k = DT σ k := by
  have h1 := rk_n0 hk
  funext g; unfold DT inD DD DRW DRL; simp only [rF_sA, tr_a1, A_sA_ne (show 1000 * (k + 1) + 15 ≠ 1001 by omega), A_sA_ne (show 1000 * (k + 1) + 18 ≠ 1001 by omega), A_sA_ne (show 1000 * (k + 1) + 19 ≠ 1001 by omega), A_sA_ne (show 1000 * (k + 1) + 20 ≠ 1001 by omega), A_sA_ne (show 1000 * (k + 1) + 21 ≠ 1001 by omega), A_sA_ne (show 1000 * (k + 1) + 24 ≠ 1001 by omega)]
theorem DT_a2 {σ : rS} {k : Nat} {i x : Int} (hk : rgk k) : DT (sA σ 1002 i x) k = DT σ k := by
  have h1 := rk_n0 hk
  funext g; unfold DT inD DD DRW DRL; simp only [rF_sA, tr_a2, A_sA_ne (show 1000 * (k + 1) + 15 ≠ 1002 by omega), A_sA_ne (show 1000 * (k + 1) + 18 ≠ 1002 by omega), A_sA_ne (show 1000 * (k + 1) + 19 ≠ 1002 by omega), A_sA_ne (show 1000 * (k + 1) + 20 ≠ 1002 by omega), A_sA_ne (show 1000 * (k + 1) + 21 ≠ 1002 by omega), A_sA_ne (show 1000 * (k + 1) + 24 ≠ 1002 by omega)]
theorem DT_F3 {σ : rS} {k : Nat} {x : Int} : DT (sF σ 0 3 x) k = DT σ k := by
  funext g; unfold DT inD DD DRW DRL; simp only [rA_sF, tr_sF, F_sF_ne (show (7 : Nat) ≠ 3 by decide)]
theorem DT_a5 {σ : rS} {k : Nat} {i x : Int} (hk : rgk k) : DT (sA σ 1005 i x) k = DT σ k := by
  have h1 := rk_n0 hk
  funext g; unfold DT inD DD DRW DRL; simp only [rF_sA, tr_a5, A_sA_ne (show 1000 * (k + 1) + 15 ≠ 1005 by omega), A_sA_ne (show 1000 * (k + 1) + 18 ≠ 1005 by omega), A_sA_ne (show 1000 * (k + 1) + 19 ≠ 1005 by omega), A_sA_ne (show 1000 * (k + 1) + 20 ≠ 1005 by omega), A_sA_ne (show 1000 * (k + 1) + 21 ≠ 1005 by omega), A_sA_ne (show 1000 * (k + 1) + 24 ≠ 1005 by omega)]
theorem DT_F10 {σ : rS} {k : Nat} {x : Int} : DT (sF σ 0 10 x) k = DT σ k := by
  funext g; unfold DT inD DD DRW DRL; simp only [rA_sF, tr_sF, F_sF_ne (show (7 : Nat) ≠ 10 by decide)]
theorem DT_F11 {σ : rS} {k : Nat} {x : Int} : DT (sF σ 0 11 x) k = DT σ k := by
  funext g; unfold DT inD DD DRW DRL; simp only [rA_sF, tr_sF, F_sF_ne (show (7 : Nat) ≠ 11 by decide)]
theorem DT_F13 {σ : rS} {k : Nat} {x : Int} : DT (sF σ 0 13 x) k = DT σ k := by
  funext g; unfold DT inD DD DRW DRL; simp only [rA_sF, tr_sF, F_sF_ne (show (7 : Nat) ≠ 13 by decide)]
theorem DT_F14 {σ : rS} {k : Nat} {x : Int} : DT (sF σ 0 14 x) k = DT σ k := by
  funext g; unfold DT inD DD DRW DRL; simp only [rA_sF, tr_sF, F_sF_ne (show (7 : Nat) ≠ 14 by decide)]
theorem DT_F16 {σ : rS} {k : Nat} {x : Int} : DT (sF σ 0 16 x) k = DT σ k := by
  funext g; unfold DT inD DD DRW DRL; simp only [rA_sF, tr_sF, F_sF_ne (show (7 : Nat) ≠ 16 by decide)]
theorem DT_F17 {σ : rS} {k : Nat} {x : Int} : DT (sF σ 0 17 x) k = DT σ k := by
  funext g; unfold DT inD DD DRW DRL; simp only [rA_sF, tr_sF, F_sF_ne (show (7 : Nat) ≠ 17 by decide)]
theorem DT_F18 {σ : rS} {k : Nat} {x : Int} : DT (sF σ 0 18 x) k = DT σ k := by
  funext g; unfold DT inD DD DRW DRL; simp only [rA_sF, tr_sF, F_sF_ne (show (7 : Nat) ≠ 18 by decide)]
theorem DT_F19 {σ : rS} {k : Nat} {x : Int} : DT (sF σ 0 19 x) k = DT σ k := by
  funext g; unfold DT inD DD DRW DRL; simp only [rA_sF, tr_sF, F_sF_ne (show (7 : Nat) ≠ 19 by decide)]
theorem DT_a20 {σ : rS} {k : Nat} {i x : Int} (hk : rgk k) : DT (sA σ 1020 i x) k = DT σ k := by
  have h1 := rk_n0 hk
  funext g; unfold DT inD DD DRW DRL; simp only [rF_sA, tr_a20, A_sA_ne (show 1000 * (k + 1) + 15 ≠ 1020 by omega), A_sA_ne (show 1000 * (k + 1) + 18 ≠ 1020 by omega), A_sA_ne (show 1000 * (k + 1) + 19 ≠ 1020 by omega), A_sA_ne (show 1000 * (k + 1) + 20 ≠ 1020 by omega), A_sA_ne (show 1000 * (k + 1) + 21 ≠ 1020 by omega), A_sA_ne (show 1000 * (k + 1) + 24 ≠ 1020 by omega)]
theorem DT_F21 {σ : rS} {k : Nat} {x : Int} : DT (sF σ 0 21 x) k = DT σ k := by
  funext g; unfold DT inD DD DRW DRL; simp only [rA_sF, tr_sF, F_sF_ne (show (7 : Nat) ≠ 21 by decide)]
theorem DT_F22 {σ : rS} {k : Nat} {x : Int} : DT (sF σ 0 22 x) k = DT σ k := by
  funext g; unfold DT inD DD DRW DRL; simp only [rA_sF, tr_sF, F_sF_ne (show (7 : Nat) ≠ 22 by decide)]
theorem DT_F23 {σ : rS} {k : Nat} {x : Int} : DT (sF σ 0 23 x) k = DT σ k := by
  funext g; unfold DT inD DD DRW DRL; simp only [rA_sF, tr_sF, F_sF_ne (show (7 : Nat) ≠ 23 by decide)]
theorem DT_F24 {σ : rS} {k : Nat} {x : Int} : DT (sF σ 0 24 x) k = DT σ k := by
  funext g; unfold DT inD DD DRW DRL; simp only [rA_sF, tr_sF, F_sF_ne (show (7 : Nat) ≠ 24 by decide)]
theorem DT_F25 {σ : rS} {k : Nat} {x : Int} : DT (sF σ 0 25 x) k = DT σ k := by
  funext g; unfold DT inD DD DRW DRL; simp only [rA_sF, tr_sF, F_sF_ne (show (7 : Nat) ≠ 25 by decide)]
theorem DT_a26 {σ : rS} {k : Nat} {i x : Int} (hk : rgk k) : DT (sA σ 1026 i x) k = DT σ k := by
  have h1 := rk_n0 hk
  funext g; unfold DT inD DD DRW DRL; simp only [rF_sA, tr_a26, A_sA_ne (show 1000 * (k + 1) + 15 ≠ 1026 by omega), A_sA_ne (show 1000 * (k + 1) + 18 ≠ 1026 by omega), A_sA_ne (show 1000 * (k + 1) + 19 ≠ 1026 by omega), A_sA_ne (show 1000 * (k + 1) + 20 ≠ 1026 by omega), A_sA_ne (show 1000 * (k + 1) + 21 ≠ 1026 by omega), A_sA_ne (show 1000 * (k + 1) + 24 ≠ 1026 by omega)]
theorem DT_a27 {σ : rS} {k : Nat} {i x : Int} (hk : rgk k) : DT (sA σ 1027 i x) k = DT σ k := by
  have h1 := rk_n0 hk
  funext g; unfold DT inD DD DRW DRL; simp only [rF_sA, tr_a27, A_sA_ne (show 1000 * (k + 1) + 15 ≠ 1027 by omega), A_sA_ne (show 1000 * (k + 1) + 18 ≠ 1027 by omega), A_sA_ne (show 1000 * (k + 1) + 19 ≠ 1027 by omega), A_sA_ne (show 1000 * (k + 1) + 20 ≠ 1027 by omega), A_sA_ne (show 1000 * (k + 1) + 21 ≠ 1027 by omega), A_sA_ne (show 1000 * (k + 1) + 24 ≠ 1027 by omega)]
theorem DT_F28 {σ : rS} {k : Nat} {x : Int} : DT (sF σ 0 28 x) k = DT σ k := by
  funext g; unfold DT inD DD DRW DRL; simp only [rA_sF, tr_sF, F_sF_ne (show (7 : Nat) ≠ 28 by decide)]
theorem DT_F29 {σ : rS} {k : Nat} {x : Int} : DT (sF σ 0 29 x) k = DT σ k := by
  funext g; unfold DT inD DD DRW DRL; simp only [rA_sF, tr_sF, F_sF_ne (show (7 : Nat) ≠ 29 by decide)]
theorem DT_F30 {σ : rS} {k : Nat} {x : Int} : DT (sF σ 0 30 x) k = DT σ k := by
  funext g; unfold DT inD DD DRW DRL; simp only [rA_sF, tr_sF, F_sF_ne (show (7 : Nat) ≠ 30 by decide)]
theorem DT_F31 {σ : rS} {k : Nat} {x : Int} : DT (sF σ 0 31 x) k = DT σ k := by
  funext g; unfold DT inD DD DRW DRL; simp only [rA_sF, tr_sF, F_sF_ne (show (7 : Nat) ≠ 31 by decide)]
theorem DT_F32 {σ : rS} {k : Nat} {x : Int} : DT (sF σ 0 32 x) k = DT σ k := by
  funext g; unfold DT inD DD DRW DRL; simp only [rA_sF, tr_sF, F_sF_ne (show (7 : Nat) ≠ 32 by decide)]
theorem DT_F33 {σ : rS} {k : Nat} {x : Int} : DT (sF σ 0 33 x) k = DT σ k := by
  funext g; unfold DT inD DD DRW DRL; simp only [rA_sF, tr_sF, F_sF_ne (show (7 : Nat) ≠ 33 by decide)]
theorem DT_a34 {σ : rS} {k : Nat} {i x : Int} (hk : rgk k) : DT (sA σ 1034 i x) k = DT σ k := by
  have h1 := rk_n0 hk
  funext g; unfold DT inD DD DRW DRL; simp only [rF_sA, tr_a34, A_sA_ne (show 1000 * (k + 1) + 15 ≠ 1034 by omega), A_sA_ne (show 1000 * (k + 1) + 18 ≠ 1034 by omega), A_sA_ne (show 1000 * (k + 1) + 19 ≠ 1034 by omega), A_sA_ne (show 1000 * (k + 1) + 20 ≠ 1034 by omega), A_sA_ne (show 1000 * (k + 1) + 21 ≠ 1034 by omega), A_sA_ne (show 1000 * (k + 1) + 24 ≠ 1034 by omega)]
theorem DT_a35 {σ : rS} {k : Nat} {i x : Int} (hk : rgk k) : DT (sA σ 1035 i x) k = DT σ k := by
  have h1 := rk_n0 hk
  funext g; unfold DT inD DD DRW DRL; simp only [rF_sA, tr_a35, A_sA_ne (show 1000 * (k + 1) + 15 ≠ 1035 by omega), A_sA_ne (show 1000 * (k + 1) + 18 ≠ 1035 by omega), A_sA_ne (show 1000 * (k + 1) + 19 ≠ 1035 by omega), A_sA_ne (show 1000 * (k + 1) + 20 ≠ 1035 by omega), A_sA_ne (show 1000 * (k + 1) + 21 ≠ 1035 by omega), A_sA_ne (show 1000 * (k + 1) + 24 ≠ 1035 by omega)]
theorem DT_a36 {σ : rS} {k : Nat} {i x : Int} (hk : rgk k) : DT (sA σ 1036 i x) k = DT σ k := by
  have h1 := rk_n0 hk
  funext g; unfold DT inD DD DRW DRL; simp only [rF_sA, tr_a36, A_sA_ne (show 1000 * (k + 1) + 15 ≠ 1036 by omega), A_sA_ne (show 1000 * (k + 1) + 18 ≠ 1036 by omega), A_sA_ne (show 1000 * (k + 1) + 19 ≠ 1036 by omega), A_sA_ne (show 1000 * (k + 1) + 20 ≠ 1036 by omega), A_sA_ne (show 1000 * (k + 1) + 21 ≠ 1036 by omega), A_sA_ne (show 1000 * (k + 1) + 24 ≠ 1036 by omega)]
theorem DT_a37 {σ : rS} {k : Nat} {i x : Int} (hk : rgk k) : DT (sA σ 1037 i x) k = DT σ k := by
  have h1 := rk_n0 hk
  funext g; unfold DT inD DD DRW DRL; simp only [rF_sA, tr_a37, A_sA_ne (show 1000 * (k + 1) + 15 ≠ 1037 by omega), A_sA_ne (show 1000 * (k + 1) + 18 ≠ 1037 by omega), A_sA_ne (show 1000 * (k + 1) + 19 ≠ 1037 by omega), A_sA_ne (show 1000 * (k + 1) + 20 ≠ 1037 by omega), A_sA_ne (show 1000 * (k + 1) + 21 ≠ 1037 by omega), A_sA_ne (show 1000 * (k + 1) + 24 ≠ 1037 by omega)]
theorem DT_F38 {σ : rS} {k : Nat} {x : Int} : DT (sF σ 0 38 x) k = DT σ k := by
  funext g; unfold DT inD DD DRW DRL; simp only [rA_sF, tr_sF, F_sF_ne (show (7 : Nat) ≠ 38 by decide)]
theorem DT_F39 {σ : rS} {k : Nat} {x : Int} : DT (sF σ 0 39 x) k = DT σ k := by
  funext g; unfold DT inD DD DRW DRL; simp only [rA_sF, tr_sF, F_sF_ne (show (7 : Nat) ≠ 39 by decide)]
theorem DT_a40 {σ : rS} {k : Nat} {i x : Int} (hk : rgk k) : DT (sA σ 1040 i x) k = DT σ k := by
  have h1 := rk_n0 hk
  funext g; unfold DT inD DD DRW DRL; simp only [rF_sA, tr_a40, A_sA_ne (show 1000 * (k + 1) + 15 ≠ 1040 by omega), A_sA_ne (show 1000 * (k + 1) + 18 ≠ 1040 by omega), A_sA_ne (show 1000 * (k + 1) + 19 ≠ 1040 by omega), A_sA_ne (show 1000 * (k + 1) + 20 ≠ 1040 by omega), A_sA_ne (show 1000 * (k + 1) + 21 ≠ 1040 by omega), A_sA_ne (show 1000 * (k + 1) + 24 ≠ 1040 by omega)]
theorem DT_F41 {σ : rS} {k : Nat} {x : Int} : DT (sF σ 0 41 x) k = DT σ k := by
  funext g; unfold DT inD DD DRW DRL; simp only [rA_sF, tr_sF, F_sF_ne (show (7 : Nat) ≠ 41 by decide)]
theorem DT_F42 {σ : rS} {k : Nat} {x : Int} : DT (sF σ 0 42 x) k = DT σ k := by
  funext g; unfold DT inD DD DRW DRL; simp only [rA_sF, tr_sF, F_sF_ne (show (7 : Nat) ≠ 42 by decide)]
theorem DT_F43 {σ : rS} {k : Nat} {x : Int} : DT (sF σ 0 43 x) k = DT σ k := by
  funext g; unfold DT inD DD DRW DRL; simp only [rA_sF, tr_sF, F_sF_ne (show (7 : Nat) ≠ 43 by decide)]
theorem DT_F44 {σ : rS} {k : Nat} {x : Int} : DT (sF σ 0 44 x) k = DT σ k := by
  funext g; unfold DT inD DD DRW DRL; simp only [rA_sF, tr_sF, F_sF_ne (show (7 : Nat) ≠ 44 by decide)]
theorem DT_F45 {σ : rS} {k : Nat} {x : Int} : DT (sF σ 0 45 x) k = DT σ k := by
  funext g; unfold DT inD DD DRW DRL; simp only [rA_sF, tr_sF, F_sF_ne (show (7 : Nat) ≠ 45 by decide)]
theorem DT_a46 {σ : rS} {k : Nat} {i x : Int} (hk : rgk k) : DT (sA σ 1046 i x) k = DT σ k := by
  have h1 := rk_n0 hk
  funext g; unfold DT inD DD DRW DRL; simp only [rF_sA, tr_a46, A_sA_ne (show 1000 * (k + 1) + 15 ≠ 1046 by omega), A_sA_ne (show 1000 * (k + 1) + 18 ≠ 1046 by omega), A_sA_ne (show 1000 * (k + 1) + 19 ≠ 1046 by omega), A_sA_ne (show 1000 * (k + 1) + 20 ≠ 1046 by omega), A_sA_ne (show 1000 * (k + 1) + 21 ≠ 1046 by omega), A_sA_ne (show 1000 * (k + 1) + 24 ≠ 1046 by omega)]
theorem DT_a47 {σ : rS} {k : Nat} {i x : Int} (hk : rgk k) : DT (sA σ 1047 i x) k = DT σ k := by
  have h1 := rk_n0 hk
  funext g; unfold DT inD DD DRW DRL; simp only [rF_sA, tr_a47, A_sA_ne (show 1000 * (k + 1) + 15 ≠ 1047 by omega), A_sA_ne (show 1000 * (k + 1) + 18 ≠ 1047 by omega), A_sA_ne (show 1000 * (k + 1) + 19 ≠ 1047 by omega), A_sA_ne (show 1000 * (k + 1) + 20 ≠ 1047 by omega), A_sA_ne (show 1000 * (k + 1) + 21 ≠ 1047 by omega), A_sA_ne (show 1000 * (k + 1) + 24 ≠ 1047 by omega)]
theorem DT_a48 {σ : rS} {k : Nat} {i x : Int} (hk : rgk k) : DT (sA σ 1048 i x) k = DT σ k := by
  have h1 := rk_n0 hk
  funext g; unfold DT inD DD DRW DRL; simp only [rF_sA, tr_a48, A_sA_ne (show 1000 * (k + 1) + 15 ≠ 1048 by omega), A_sA_ne (show 1000 * (k + 1) + 18 ≠ 1048 by omega), A_sA_ne (show 1000 * (k + 1) + 19 ≠ 1048 by omega), A_sA_ne (show 1000 * (k + 1) + 20 ≠ 1048 by omega), A_sA_ne (show 1000 * (k + 1) + 21 ≠ 1048 by omega), A_sA_ne (show 1000 * (k + 1) + 24 ≠ 1048 by omega)]
theorem DT_a49 {σ : rS} {k : Nat} {i x : Int} (hk : rgk k) : DT (sA σ 1049 i x) k = DT σ k := by
  have h1 := rk_n0 hk
  funext g; unfold DT inD DD DRW DRL; simp only [rF_sA, tr_a49, A_sA_ne (show 1000 * (k + 1) + 15 ≠ 1049 by omega), A_sA_ne (show 1000 * (k + 1) + 18 ≠ 1049 by omega), A_sA_ne (show 1000 * (k + 1) + 19 ≠ 1049 by omega), A_sA_ne (show 1000 * (k + 1) + 20 ≠ 1049 by omega), A_sA_ne (show 1000 * (k + 1) + 21 ≠ 1049 by omega), A_sA_ne (show 1000 * (k + 1) + 24 ≠ 1049 by omega)]
theorem DT_a50 {σ : rS} {k : Nat} {i x : Int} (hk : rgk k) : DT (sA σ 1050 i x) k = DT σ k := by
  have h1 := rk_n0 hk
  funext g; unfold DT inD DD DRW DRL; simp only [rF_sA, tr_a50, A_sA_ne (show 1000 * (k + 1) + 15 ≠ 1050 by omega), A_sA_ne (show 1000 * (k + 1) + 18 ≠ 1050 by omega), A_sA_ne (show 1000 * (k + 1) + 19 ≠ 1050 by omega), A_sA_ne (show 1000 * (k + 1) + 20 ≠ 1050 by omega), A_sA_ne (show 1000 * (k + 1) + 21 ≠ 1050 by omega), A_sA_ne (show 1000 * (k + 1) + 24 ≠ 1050 by omega)]
theorem DT_a51 {σ : rS} {k : Nat} {i x : Int} (hk : rgk k) : DT (sA σ 1051 i x) k = DT σ k := by
  have h1 := rk_n0 hk
  funext g; unfold DT inD DD DRW DRL; simp only [rF_sA, tr_a51, A_sA_ne (show 1000 * (k + 1) + 15 ≠ 1051 by omega), A_sA_ne (show 1000 * (k + 1) + 18 ≠ 1051 by omega), A_sA_ne (show 1000 * (k + 1) + 19 ≠ 1051 by omega), A_sA_ne (show 1000 * (k + 1) + 20 ≠ 1051 by omega), A_sA_ne (show 1000 * (k + 1) + 21 ≠ 1051 by omega), A_sA_ne (show 1000 * (k + 1) + 24 ≠ 1051 by omega)]
theorem DT_a52 {σ : rS} {k : Nat} {i x : Int} (hk : rgk k) : DT (sA σ 1052 i x) k = DT σ k := by
  have h1 := rk_n0 hk
  funext g; unfold DT inD DD DRW DRL; simp only [rF_sA, tr_a52, A_sA_ne (show 1000 * (k + 1) + 15 ≠ 1052 by omega), A_sA_ne (show 1000 * (k + 1) + 18 ≠ 1052 by omega), A_sA_ne (show 1000 * (k + 1) + 19 ≠ 1052 by omega), A_sA_ne (show 1000 * (k + 1) + 20 ≠ 1052 by omega), A_sA_ne (show 1000 * (k + 1) + 21 ≠ 1052 by omega), A_sA_ne (show 1000 * (k + 1) + 24 ≠ 1052 by omega)]
theorem DT_a53 {σ : rS} {k : Nat} {i x : Int} (hk : rgk k) : DT (sA σ 1053 i x) k = DT σ k := by
  have h1 := rk_n0 hk
  funext g; unfold DT inD DD DRW DRL; simp only [rF_sA, tr_a53, A_sA_ne (show 1000 * (k + 1) + 15 ≠ 1053 by omega), A_sA_ne (show 1000 * (k + 1) + 18 ≠ 1053 by omega), A_sA_ne (show 1000 * (k + 1) + 19 ≠ 1053 by omega), A_sA_ne (show 1000 * (k + 1) + 20 ≠ 1053 by omega), A_sA_ne (show 1000 * (k + 1) + 21 ≠ 1053 by omega), A_sA_ne (show 1000 * (k + 1) + 24 ≠ 1053 by omega)]
theorem DT_a54 {σ : rS} {k : Nat} {i x : Int} (hk : rgk k) : DT (sA σ 1054 i x) k = DT σ k := by
  have h1 := rk_n0 hk
  funext g; unfold DT inD DD DRW DRL; simp only [rF_sA, tr_a54, A_sA_ne (show 1000 * (k + 1) + 15 ≠ 1054 by omega), A_sA_ne (show 1000 * (k + 1) + 18 ≠ 1054 by omega), A_sA_ne (show 1000 * (k + 1) + 19 ≠ 1054 by omega), A_sA_ne (show 1000 * (k + 1) + 20 ≠ 1054 by omega), A_sA_ne (show 1000 * (k + 1) + 21 ≠ 1054 by omega), A_sA_ne (show 1000 * (k + 1) + 24 ≠ 1054 by omega)]
theorem DT_a55 {σ : rS} {k : Nat} {i x : Int} (hk : rgk k) : DT (sA σ 1055 i x) k = DT σ k := by
  have h1 := rk_n0 hk
  funext g; unfold DT inD DD DRW DRL; simp only [rF_sA, tr_a55, A_sA_ne (show 1000 * (k + 1) + 15 ≠ 1055 by omega), A_sA_ne (show 1000 * (k + 1) + 18 ≠ 1055 by omega), A_sA_ne (show 1000 * (k + 1) + 19 ≠ 1055 by omega), A_sA_ne (show 1000 * (k + 1) + 20 ≠ 1055 by omega), A_sA_ne (show 1000 * (k + 1) + 21 ≠ 1055 by omega), A_sA_ne (show 1000 * (k + 1) + 24 ≠ 1055 by omega)]
theorem DT_a56 {σ : rS} {k : Nat} {i x : Int} (hk : rgk k) : DT (sA σ 1056 i x) k = DT σ k := by
  have h1 := rk_n0 hk
  funext g; unfold DT inD DD DRW DRL; simp only [rF_sA, tr_a56, A_sA_ne (show 1000 * (k + 1) + 15 ≠ 1056 by omega), A_sA_ne (show 1000 * (k + 1) + 18 ≠ 1056 by omega), A_sA_ne (show 1000 * (k + 1) + 19 ≠ 1056 by omega), A_sA_ne (show 1000 * (k + 1) + 20 ≠ 1056 by omega), A_sA_ne (show 1000 * (k + 1) + 21 ≠ 1056 by omega), A_sA_ne (show 1000 * (k + 1) + 24 ≠ 1056 by omega)]
theorem DT_a57 {σ : rS} {k : Nat} {i x : Int} (hk : rgk k) : DT (sA σ 1057 i x) k = DT σ k := by
  have h1 := rk_n0 hk
  funext g; unfold DT inD DD DRW DRL; simp only [rF_sA, tr_a57, A_sA_ne (show 1000 * (k + 1) + 15 ≠ 1057 by omega), A_sA_ne (show 1000 * (k + 1) + 18 ≠ 1057 by omega), A_sA_ne (show 1000 * (k + 1) + 19 ≠ 1057 by omega), A_sA_ne (show 1000 * (k + 1) + 20 ≠ 1057 by omega), A_sA_ne (show 1000 * (k + 1) + 21 ≠ 1057 by omega), A_sA_ne (show 1000 * (k + 1) + 24 ≠ 1057 by omega)]
theorem DT_a58 {σ : rS} {k : Nat} {i x : Int} (hk : rgk k) : DT (sA σ 1058 i x) k = DT σ k := by
  have h1 := rk_n0 hk
  funext g; unfold DT inD DD DRW DRL; simp only [rF_sA, tr_a58, A_sA_ne (show 1000 * (k + 1) + 15 ≠ 1058 by omega), A_sA_ne (show 1000 * (k + 1) + 18 ≠ 1058 by omega), A_sA_ne (show 1000 * (k + 1) + 19 ≠ 1058 by omega), A_sA_ne (show 1000 * (k + 1) + 20 ≠ 1058 by omega), A_sA_ne (show 1000 * (k + 1) + 21 ≠ 1058 by omega), A_sA_ne (show 1000 * (k + 1) + 24 ≠ 1058 by omega)]
theorem DT_a59 {σ : rS} {k : Nat} {i x : Int} (hk : rgk k) : DT (sA σ 1059 i x) k = DT σ k := by
  have h1 := rk_n0 hk
  funext g; unfold DT inD DD DRW DRL; simp only [rF_sA, tr_a59, A_sA_ne (show 1000 * (k + 1) + 15 ≠ 1059 by omega), A_sA_ne (show 1000 * (k + 1) + 18 ≠ 1059 by omega), A_sA_ne (show 1000 * (k + 1) + 19 ≠ 1059 by omega), A_sA_ne (show 1000 * (k + 1) + 20 ≠ 1059 by omega), A_sA_ne (show 1000 * (k + 1) + 21 ≠ 1059 by omega), A_sA_ne (show 1000 * (k + 1) + 24 ≠ 1059 by omega)]
theorem DT_F60 {σ : rS} {k : Nat} {x : Int} : DT (sF σ 0 60 x) k = DT σ k := by
  funext g; unfold DT inD DD DRW DRL; simp only [rA_sF, tr_sF, F_sF_ne (show (7 : Nat) ≠ 60 by decide)]
theorem DT_a61 {σ : rS} {k : Nat} {i x : Int} (hk : rgk k) : DT (sA σ 1061 i x) k = DT σ k := by
  have h1 := rk_n0 hk
  funext g; unfold DT inD DD DRW DRL; simp only [rF_sA, tr_a61, A_sA_ne (show 1000 * (k + 1) + 15 ≠ 1061 by omega), A_sA_ne (show 1000 * (k + 1) + 18 ≠ 1061 by omega), A_sA_ne (show 1000 * (k + 1) + 19 ≠ 1061 by omega), A_sA_ne (show 1000 * (k + 1) + 20 ≠ 1061 by omega), A_sA_ne (show 1000 * (k + 1) + 21 ≠ 1061 by omega), A_sA_ne (show 1000 * (k + 1) + 24 ≠ 1061 by omega)]
theorem DT_a62 {σ : rS} {k : Nat} {i x : Int} (hk : rgk k) : DT (sA σ 1062 i x) k = DT σ k := by
  have h1 := rk_n0 hk
  funext g; unfold DT inD DD DRW DRL; simp only [rF_sA, tr_a62, A_sA_ne (show 1000 * (k + 1) + 15 ≠ 1062 by omega), A_sA_ne (show 1000 * (k + 1) + 18 ≠ 1062 by omega), A_sA_ne (show 1000 * (k + 1) + 19 ≠ 1062 by omega), A_sA_ne (show 1000 * (k + 1) + 20 ≠ 1062 by omega), A_sA_ne (show 1000 * (k + 1) + 21 ≠ 1062 by omega), A_sA_ne (show 1000 * (k + 1) + 24 ≠ 1062 by omega)]
theorem DT_a63 {σ : rS} {k : Nat} {i x : Int} (hk : rgk k) : DT (sA σ 1063 i x) k = DT σ k := by
  have h1 := rk_n0 hk
  funext g; unfold DT inD DD DRW DRL; simp only [rF_sA, tr_a63, A_sA_ne (show 1000 * (k + 1) + 15 ≠ 1063 by omega), A_sA_ne (show 1000 * (k + 1) + 18 ≠ 1063 by omega), A_sA_ne (show 1000 * (k + 1) + 19 ≠ 1063 by omega), A_sA_ne (show 1000 * (k + 1) + 20 ≠ 1063 by omega), A_sA_ne (show 1000 * (k + 1) + 21 ≠ 1063 by omega), A_sA_ne (show 1000 * (k + 1) + 24 ≠ 1063 by omega)]
theorem DT_a64 {σ : rS} {k : Nat} {i x : Int} (hk : rgk k) : DT (sA σ 1064 i x) k = DT σ k := by
  have h1 := rk_n0 hk
  funext g; unfold DT inD DD DRW DRL; simp only [rF_sA, tr_a64, A_sA_ne (show 1000 * (k + 1) + 15 ≠ 1064 by omega), A_sA_ne (show 1000 * (k + 1) + 18 ≠ 1064 by omega), A_sA_ne (show 1000 * (k + 1) + 19 ≠ 1064 by omega), A_sA_ne (show 1000 * (k + 1) + 20 ≠ 1064 by omega), A_sA_ne (show 1000 * (k + 1) + 21 ≠ 1064 by omega), A_sA_ne (show 1000 * (k + 1) + 24 ≠ 1064 by omega)]
theorem DT_F65 {σ : rS} {k : Nat} {x : Int} : DT (sF σ 0 65 x) k = DT σ k := by
  funext g; unfold DT inD DD DRW DRL; simp only [rA_sF, tr_sF, F_sF_ne (show (7 : Nat) ≠ 65 by decide)]
theorem DT_F66 {σ : rS} {k : Nat} {x : Int} : DT (sF σ 0 66 x) k = DT σ k := by
  funext g; unfold DT inD DD DRW DRL; simp only [rA_sF, tr_sF, F_sF_ne (show (7 : Nat) ≠ 66 by decide)]
theorem DT_F67 {σ : rS} {k : Nat} {x : Int} : DT (sF σ 0 67 x) k = DT σ k := by
  funext g; unfold DT inD DD DRW DRL; simp only [rA_sF, tr_sF, F_sF_ne (show (7 : Nat) ≠ 67 by decide)]
theorem DT_F68 {σ : rS} {k : Nat} {x : Int} : DT (sF σ 0 68 x) k = DT σ k := by
  funext g; unfold DT inD DD DRW DRL; simp only [rA_sF, tr_sF, F_sF_ne (show (7 : Nat) ≠ 68 by decide)]
theorem DT_a69 {σ : rS} {k : Nat} {i x : Int} (hk : rgk k) : DT (sA σ 1069 i x) k = DT σ k := by
  have h1 := rk_n0 hk
  funext g; unfold DT inD DD DRW DRL; simp only [rF_sA, tr_a69, A_sA_ne (show 1000 * (k + 1) + 15 ≠ 1069 by omega), A_sA_ne (show 1000 * (k + 1) + 18 ≠ 1069 by omega), A_sA_ne (show 1000 * (k + 1) + 19 ≠ 1069 by omega), A_sA_ne (show 1000 * (k + 1) + 20 ≠ 1069 by omega), A_sA_ne (show 1000 * (k + 1) + 21 ≠ 1069 by omega), A_sA_ne (show 1000 * (k + 1) + 24 ≠ 1069 by omega)]
theorem DT_F70 {σ : rS} {k : Nat} {x : Int} : DT (sF σ 0 70 x) k = DT σ k := by
  funext g; unfold DT inD DD DRW DRL; simp only [rA_sF, tr_sF, F_sF_ne (show (7 : Nat) ≠ 70 by decide)]
theorem DT_F71 {σ : rS} {k : Nat} {x : Int} : DT (sF σ 0 71 x) k = DT σ k := by
  funext g; unfold DT inD DD DRW DRL; simp only [rA_sF, tr_sF, F_sF_ne (show (7 : Nat) ≠ 71 by decide)]
theorem DT_F72 {σ : rS} {k : Nat} {x : Int} : DT (sF σ 0 72 x) k = DT σ k := by
  funext g; unfold DT inD DD DRW DRL; simp only [rA_sF, tr_sF, F_sF_ne (show (7 : Nat) ≠ 72 by decide)]
theorem DT_F73 {σ : rS} {k : Nat} {x : Int} : DT (sF σ 0 73 x) k = DT σ k := by
  funext g; unfold DT inD DD DRW DRL; simp only [rA_sF, tr_sF, F_sF_ne (show (7 : Nat) ≠ 73 by decide)]
theorem DT_F74 {σ : rS} {k : Nat} {x : Int} : DT (sF σ 0 74 x) k = DT σ k := by
  funext g; unfold DT inD DD DRW DRL; simp only [rA_sF, tr_sF, F_sF_ne (show (7 : Nat) ≠ 74 by decide)]
theorem DT_a75 {σ : rS} {k : Nat} {i x : Int} (hk : rgk k) : DT (sA σ 1075 i x) k = DT σ k := by
  have h1 := rk_n0 hk
  funext g; unfold DT inD DD DRW DRL; simp only [rF_sA, tr_a75, A_sA_ne (show 1000 * (k + 1) + 15 ≠ 1075 by omega), A_sA_ne (show 1000 * (k + 1) + 18 ≠ 1075 by omega), A_sA_ne (show 1000 * (k + 1) + 19 ≠ 1075 by omega), A_sA_ne (show 1000 * (k + 1) + 20 ≠ 1075 by omega), A_sA_ne (show 1000 * (k + 1) + 21 ≠ 1075 by omega), A_sA_ne (show 1000 * (k + 1) + 24 ≠ 1075 by omega)]
theorem DT_a76 {σ : rS} {k : Nat} {i x : Int} (hk : rgk k) : DT (sA σ 1076 i x) k = DT σ k := by
  have h1 := rk_n0 hk
  funext g; unfold DT inD DD DRW DRL; simp only [rF_sA, tr_a76, A_sA_ne (show 1000 * (k + 1) + 15 ≠ 1076 by omega), A_sA_ne (show 1000 * (k + 1) + 18 ≠ 1076 by omega), A_sA_ne (show 1000 * (k + 1) + 19 ≠ 1076 by omega), A_sA_ne (show 1000 * (k + 1) + 20 ≠ 1076 by omega), A_sA_ne (show 1000 * (k + 1) + 21 ≠ 1076 by omega), A_sA_ne (show 1000 * (k + 1) + 24 ≠ 1076 by omega)]
theorem DT_a77 {σ : rS} {k : Nat} {i x : Int} (hk : rgk k) : DT (sA σ 1077 i x) k = DT σ k := by
  have h1 := rk_n0 hk
  funext g; unfold DT inD DD DRW DRL; simp only [rF_sA, tr_a77, A_sA_ne (show 1000 * (k + 1) + 15 ≠ 1077 by omega), A_sA_ne (show 1000 * (k + 1) + 18 ≠ 1077 by omega), A_sA_ne (show 1000 * (k + 1) + 19 ≠ 1077 by omega), A_sA_ne (show 1000 * (k + 1) + 20 ≠ 1077 by omega), A_sA_ne (show 1000 * (k + 1) + 21 ≠ 1077 by omega), A_sA_ne (show 1000 * (k + 1) + 24 ≠ 1077 by omega)]
theorem DT_a78 {σ : rS} {k : Nat} {i x : Int} (hk : rgk k) : DT (sA σ 1078 i x) k = DT σ k := by
  have h1 := rk_n0 hk
  funext g; unfold DT inD DD DRW DRL; simp only [rF_sA, tr_a78, A_sA_ne (show 1000 * (k + 1) + 15 ≠ 1078 by omega), A_sA_ne (show 1000 * (k + 1) + 18 ≠ 1078 by omega), A_sA_ne (show 1000 * (k + 1) + 19 ≠ 1078 by omega), A_sA_ne (show 1000 * (k + 1) + 20 ≠ 1078 by omega), A_sA_ne (show 1000 * (k + 1) + 21 ≠ 1078 by omega), A_sA_ne (show 1000 * (k + 1) + 24 ≠ 1078 by omega)]
theorem DT_a79 {σ : rS} {k : Nat} {i x : Int} (hk : rgk k) : DT (sA σ 1079 i x) k = DT σ k := by
  have h1 := rk_n0 hk
  funext g; unfold DT inD DD DRW DRL; simp only [rF_sA, tr_a79, A_sA_ne (show 1000 * (k + 1) + 15 ≠ 1079 by omega), A_sA_ne (show 1000 * (k + 1) + 18 ≠ 1079 by omega), A_sA_ne (show 1000 * (k + 1) + 19 ≠ 1079 by omega), A_sA_ne (show 1000 * (k + 1) + 20 ≠ 1079 by omega), A_sA_ne (show 1000 * (k + 1) + 21 ≠ 1079 by omega), A_sA_ne (show 1000 * (k + 1) + 24 ≠ 1079 by omega)]
theorem DT_F80 {σ : rS} {k : Nat} {x : Int} : DT (sF σ 0 80 x) k = DT σ k := by
  funext g; unfold DT inD DD DRW DRL; simp only [rA_sF, tr_sF, F_sF_ne (show (7 : Nat) ≠ 80 by decide)]
theorem DT_F81 {σ : rS} {k : Nat} {x : Int} : DT (sF σ 0 81 x) k = DT σ k := by
  funext g; unfold DT inD DD DRW DRL; simp only [rA_sF, tr_sF, F_sF_ne (show (7 : Nat) ≠ 81 by decide)]
theorem DT_F82 {σ : rS} {k : Nat} {x : Int} : DT (sF σ 0 82 x) k = DT σ k := by
  funext g; unfold DT inD DD DRW DRL; simp only [rA_sF, tr_sF, F_sF_ne (show (7 : Nat) ≠ 82 by decide)]
theorem DT_F83 {σ : rS} {k : Nat} {x : Int} : DT (sF σ 0 83 x) k = DT σ k := by
  funext g; unfold DT inD DD DRW DRL; simp only [rA_sF, tr_sF, F_sF_ne (show (7 : Nat) ≠ 83 by decide)]
theorem DT_a84 {σ : rS} {k : Nat} {i x : Int} (hk : rgk k) : DT (sA σ 1084 i x) k = DT σ k := by
  have h1 := rk_n0 hk
  funext g; unfold DT inD DD DRW DRL; simp only [rF_sA, tr_a84, A_sA_ne (show 1000 * (k + 1) + 15 ≠ 1084 by omega), A_sA_ne (show 1000 * (k + 1) + 18 ≠ 1084 by omega), A_sA_ne (show 1000 * (k + 1) + 19 ≠ 1084 by omega), A_sA_ne (show 1000 * (k + 1) + 20 ≠ 1084 by omega), A_sA_ne (show 1000 * (k + 1) + 21 ≠ 1084 by omega), A_sA_ne (show 1000 * (k + 1) + 24 ≠ 1084 by omega)]
theorem DT_a85 {σ : rS} {k : Nat} {i x : Int} (hk : rgk k) : DT (sA σ 1085 i x) k = DT σ k := by
  have h1 := rk_n0 hk
  funext g; unfold DT inD DD DRW DRL; simp only [rF_sA, tr_a85, A_sA_ne (show 1000 * (k + 1) + 15 ≠ 1085 by omega), A_sA_ne (show 1000 * (k + 1) + 18 ≠ 1085 by omega), A_sA_ne (show 1000 * (k + 1) + 19 ≠ 1085 by omega), A_sA_ne (show 1000 * (k + 1) + 20 ≠ 1085 by omega), A_sA_ne (show 1000 * (k + 1) + 21 ≠ 1085 by omega), A_sA_ne (show 1000 * (k + 1) + 24 ≠ 1085 by omega)]
theorem DT_a86 {σ : rS} {k : Nat} {i x : Int} (hk : rgk k) : DT (sA σ 1086 i x) k = DT σ k := by
  have h1 := rk_n0 hk
  funext g; unfold DT inD DD DRW DRL; simp only [rF_sA, tr_a86, A_sA_ne (show 1000 * (k + 1) + 15 ≠ 1086 by omega), A_sA_ne (show 1000 * (k + 1) + 18 ≠ 1086 by omega), A_sA_ne (show 1000 * (k + 1) + 19 ≠ 1086 by omega), A_sA_ne (show 1000 * (k + 1) + 20 ≠ 1086 by omega), A_sA_ne (show 1000 * (k + 1) + 21 ≠ 1086 by omega), A_sA_ne (show 1000 * (k + 1) + 24 ≠ 1086 by omega)]
theorem DT_a87 {σ : rS} {k : Nat} {i x : Int} (hk : rgk k) : DT (sA σ 1087 i x) k = DT σ k := by
  have h1 := rk_n0 hk
  funext g; unfold DT inD DD DRW DRL; simp only [rF_sA, tr_a87, A_sA_ne (show 1000 * (k + 1) + 15 ≠ 1087 by omega), A_sA_ne (show 1000 * (k + 1) + 18 ≠ 1087 by omega), A_sA_ne (show 1000 * (k + 1) + 19 ≠ 1087 by omega), A_sA_ne (show 1000 * (k + 1) + 20 ≠ 1087 by omega), A_sA_ne (show 1000 * (k + 1) + 21 ≠ 1087 by omega), A_sA_ne (show 1000 * (k + 1) + 24 ≠ 1087 by omega)]
theorem DT_F88 {σ : rS} {k : Nat} {x : Int} : DT (sF σ 0 88 x) k = DT σ k := by
  funext g; unfold DT inD DD DRW DRL; simp only [rA_sF, tr_sF, F_sF_ne (show (7 : Nat) ≠ 88 by decide)]
theorem DT_a89 {σ : rS} {k : Nat} {i x : Int} (hk : rgk k) : DT (sA σ 1089 i x) k = DT σ k := by
  have h1 := rk_n0 hk
  funext g; unfold DT inD DD DRW DRL; simp only [rF_sA, tr_a89, A_sA_ne (show 1000 * (k + 1) + 15 ≠ 1089 by omega), A_sA_ne (show 1000 * (k + 1) + 18 ≠ 1089 by omega), A_sA_ne (show 1000 * (k + 1) + 19 ≠ 1089 by omega), A_sA_ne (show 1000 * (k + 1) + 20 ≠ 1089 by omega), A_sA_ne (show 1000 * (k + 1) + 21 ≠ 1089 by omega), A_sA_ne (show 1000 * (k + 1) + 24 ≠ 1089 by omega)]
theorem DT_a90 {σ : rS} {k : Nat} {i x : Int} (hk : rgk k) : DT (sA σ 1090 i x) k = DT σ k := by
  have h1 := rk_n0 hk
  funext g; unfold DT inD DD DRW DRL; simp only [rF_sA, tr_a90, A_sA_ne (show 1000 * (k + 1) + 15 ≠ 1090 by omega), A_sA_ne (show 1000 * (k + 1) + 18 ≠ 1090 by omega), A_sA_ne (show 1000 * (k + 1) + 19 ≠ 1090 by omega), A_sA_ne (show 1000 * (k + 1) + 20 ≠ 1090 by omega), A_sA_ne (show 1000 * (k + 1) + 21 ≠ 1090 by omega), A_sA_ne (show 1000 * (k + 1) + 24 ≠ 1090 by omega)]
theorem DT_a91 {σ : rS} {k : Nat} {i x : Int} (hk : rgk k) : DT (sA σ 1091 i x) k = DT σ k := by
  have h1 := rk_n0 hk
  funext g; unfold DT inD DD DRW DRL; simp only [rF_sA, tr_a91, A_sA_ne (show 1000 * (k + 1) + 15 ≠ 1091 by omega), A_sA_ne (show 1000 * (k + 1) + 18 ≠ 1091 by omega), A_sA_ne (show 1000 * (k + 1) + 19 ≠ 1091 by omega), A_sA_ne (show 1000 * (k + 1) + 20 ≠ 1091 by omega), A_sA_ne (show 1000 * (k + 1) + 21 ≠ 1091 by omega), A_sA_ne (show 1000 * (k + 1) + 24 ≠ 1091 by omega)]
theorem DT_F92 {σ : rS} {k : Nat} {x : Int} : DT (sF σ 0 92 x) k = DT σ k := by
  funext g; unfold DT inD DD DRW DRL; simp only [rA_sF, tr_sF, F_sF_ne (show (7 : Nat) ≠ 92 by decide)]
theorem DT_a93 {σ : rS} {k : Nat} {i x : Int} (hk : rgk k) : DT (sA σ 1093 i x) k = DT σ k := by
  have h1 := rk_n0 hk
  funext g; unfold DT inD DD DRW DRL; simp only [rF_sA, tr_a93, A_sA_ne (show 1000 * (k + 1) + 15 ≠ 1093 by omega), A_sA_ne (show 1000 * (k + 1) + 18 ≠ 1093 by omega), A_sA_ne (show 1000 * (k + 1) + 19 ≠ 1093 by omega), A_sA_ne (show 1000 * (k + 1) + 20 ≠ 1093 by omega), A_sA_ne (show 1000 * (k + 1) + 21 ≠ 1093 by omega), A_sA_ne (show 1000 * (k + 1) + 24 ≠ 1093 by omega)]
theorem DT_F94 {σ : rS} {k : Nat} {x : Int} : DT (sF σ 0 94 x) k = DT σ k := by
  funext g; unfold DT inD DD DRW DRL; simp only [rA_sF, tr_sF, F_sF_ne (show (7 : Nat) ≠ 94 by decide)]
theorem DT_F96 {σ : rS} {k : Nat} {x : Int} : DT (sF σ 0 96 x) k = DT σ k := by
  funext g; unfold DT inD DD DRW DRL; simp only [rA_sF, tr_sF, F_sF_ne (show (7 : Nat) ≠ 96 by decide)]
theorem DT_F97 {σ : rS} {k : Nat} {x : Int} : DT (sF σ 0 97 x) k = DT σ k := by
  funext g; unfold DT inD DD DRW DRL; simp only [rA_sF, tr_sF, F_sF_ne (show (7 : Nat) ≠ 97 by decide)]
theorem DT_F98 {σ : rS} {k : Nat} {x : Int} : DT (sF σ 0 98 x) k = DT σ k := by
  funext g; unfold DT inD DD DRW DRL; simp only [rA_sF, tr_sF, F_sF_ne (show (7 : Nat) ≠ 98 by decide)]
theorem DT_F99 {σ : rS} {k : Nat} {x : Int} : DT (sF σ 0 99 x) k = DT σ k := by
  funext g; unfold DT inD DD DRW DRL; simp only [rA_sF, tr_sF, F_sF_ne (show (7 : Nat) ≠ 99 by decide)]
theorem DT_F100 {σ : rS} {k : Nat} {x : Int} : DT (sF σ 0 100 x) k = DT σ k := by
  funext g; unfold DT inD DD DRW DRL; simp only [rA_sF, tr_sF, F_sF_ne (show (7 : Nat) ≠ 100 by decide)]
theorem DT_F101 {σ : rS} {k : Nat} {x : Int} : DT (sF σ 0 101 x) k = DT σ k := by
  funext g; unfold DT inD DD DRW DRL; simp only [rA_sF, tr_sF, F_sF_ne (show (7 : Nat) ≠ 101 by decide)]
theorem DT_a102 {σ : rS} {k : Nat} {i x : Int} (hk : rgk k) : DT (sA σ 1102 i x) k = DT σ k := by
  have h1 := rk_n0 hk
  funext g; unfold DT inD DD DRW DRL; simp only [rF_sA, tr_a102, A_sA_ne (show 1000 * (k + 1) + 15 ≠ 1102 by omega), A_sA_ne (show 1000 * (k + 1) + 18 ≠ 1102 by omega), A_sA_ne (show 1000 * (k + 1) + 19 ≠ 1102 by omega), A_sA_ne (show 1000 * (k + 1) + 20 ≠ 1102 by omega), A_sA_ne (show 1000 * (k + 1) + 21 ≠ 1102 by omega), A_sA_ne (show 1000 * (k + 1) + 24 ≠ 1102 by omega)]
theorem DT_F103 {σ : rS} {k : Nat} {x : Int} : DT (sF σ 0 103 x) k = DT σ k := by
  funext g; unfold DT inD DD DRW DRL; simp only [rA_sF, tr_sF, F_sF_ne (show (7 : Nat) ≠ 103 by decide)]
theorem DT_F104 {σ : rS} {k : Nat} {x : Int} : DT (sF σ 0 104 x) k = DT σ k := by
  funext g; unfold DT inD DD DRW DRL; simp only [rA_sF, tr_sF, F_sF_ne (show (7 : Nat) ≠ 104 by decide)]
theorem DT_a105 {σ : rS} {k : Nat} {i x : Int} (hk : rgk k) : DT (sA σ 1105 i x) k = DT σ k := by
  have h1 := rk_n0 hk
  funext g; unfold DT inD DD DRW DRL; simp only [rF_sA, tr_a105, A_sA_ne (show 1000 * (k + 1) + 15 ≠ 1105 by omega), A_sA_ne (show 1000 * (k + 1) + 18 ≠ 1105 by omega), A_sA_ne (show 1000 * (k + 1) + 19 ≠ 1105 by omega), A_sA_ne (show 1000 * (k + 1) + 20 ≠ 1105 by omega), A_sA_ne (show 1000 * (k + 1) + 21 ≠ 1105 by omega), A_sA_ne (show 1000 * (k + 1) + 24 ≠ 1105 by omega)]
theorem DT_a106 {σ : rS} {k : Nat} {i x : Int} (hk : rgk k) : DT (sA σ 1106 i x) k = DT σ k := by
  have h1 := rk_n0 hk
  funext g; unfold DT inD DD DRW DRL; simp only [rF_sA, tr_a106, A_sA_ne (show 1000 * (k + 1) + 15 ≠ 1106 by omega), A_sA_ne (show 1000 * (k + 1) + 18 ≠ 1106 by omega), A_sA_ne (show 1000 * (k + 1) + 19 ≠ 1106 by omega), A_sA_ne (show 1000 * (k + 1) + 20 ≠ 1106 by omega), A_sA_ne (show 1000 * (k + 1) + 21 ≠ 1106 by omega), A_sA_ne (show 1000 * (k + 1) + 24 ≠ 1106 by omega)]
theorem DT_a107 {σ : rS} {k : Nat} {i x : Int} (hk : rgk k) : DT (sA σ 1107 i x) k = DT σ k := by
  have h1 := rk_n0 hk
  funext g; unfold DT inD DD DRW DRL; simp only [rF_sA, tr_a107, A_sA_ne (show 1000 * (k + 1) + 15 ≠ 1107 by omega), A_sA_ne (show 1000 * (k + 1) + 18 ≠ 1107 by omega), A_sA_ne (show 1000 * (k + 1) + 19 ≠ 1107 by omega), A_sA_ne (show 1000 * (k + 1) + 20 ≠ 1107 by omega), A_sA_ne (show 1000 * (k + 1) + 21 ≠ 1107 by omega), A_sA_ne (show 1000 * (k + 1) + 24 ≠ 1107 by omega)]
theorem DT_a108 {σ : rS} {k : Nat} {i x : Int} (hk : rgk k) : DT (sA σ 1108 i x) k = DT σ k := by
  have h1 := rk_n0 hk
  funext g; unfold DT inD DD DRW DRL; simp only [rF_sA, tr_a108, A_sA_ne (show 1000 * (k + 1) + 15 ≠ 1108 by omega), A_sA_ne (show 1000 * (k + 1) + 18 ≠ 1108 by omega), A_sA_ne (show 1000 * (k + 1) + 19 ≠ 1108 by omega), A_sA_ne (show 1000 * (k + 1) + 20 ≠ 1108 by omega), A_sA_ne (show 1000 * (k + 1) + 21 ≠ 1108 by omega), A_sA_ne (show 1000 * (k + 1) + 24 ≠ 1108 by omega)]
theorem DT_a109 {σ : rS} {k : Nat} {i x : Int} (hk : rgk k) : DT (sA σ 1109 i x) k = DT σ k := by
  have h1 := rk_n0 hk
  funext g; unfold DT inD DD DRW DRL; simp only [rF_sA, tr_a109, A_sA_ne (show 1000 * (k + 1) + 15 ≠ 1109 by omega), A_sA_ne (show 1000 * (k + 1) + 18 ≠ 1109 by omega), A_sA_ne (show 1000 * (k + 1) + 19 ≠ 1109 by omega), A_sA_ne (show 1000 * (k + 1) + 20 ≠ 1109 by omega), A_sA_ne (show 1000 * (k + 1) + 21 ≠ 1109 by omega), A_sA_ne (show 1000 * (k + 1) + 24 ≠ 1109 by omega)]
theorem DT_a110 {σ : rS} {k : Nat} {i x : Int} (hk : rgk k) : DT (sA σ 1110 i x) k = DT σ k := by
  have h1 := rk_n0 hk
  funext g; unfold DT inD DD DRW DRL; simp only [rF_sA, tr_a110, A_sA_ne (show 1000 * (k + 1) + 15 ≠ 1110 by omega), A_sA_ne (show 1000 * (k + 1) + 18 ≠ 1110 by omega), A_sA_ne (show 1000 * (k + 1) + 19 ≠ 1110 by omega), A_sA_ne (show 1000 * (k + 1) + 20 ≠ 1110 by omega), A_sA_ne (show 1000 * (k + 1) + 21 ≠ 1110 by omega), A_sA_ne (show 1000 * (k + 1) + 24 ≠ 1110 by omega)]
theorem DT_a111 {σ : rS} {k : Nat} {i x : Int} (hk : rgk k) : DT (sA σ 1111 i x) k = DT σ k := by
  have h1 := rk_n0 hk
  funext g; unfold DT inD DD DRW DRL; simp only [rF_sA, tr_a111, A_sA_ne (show 1000 * (k + 1) + 15 ≠ 1111 by omega), A_sA_ne (show 1000 * (k + 1) + 18 ≠ 1111 by omega), A_sA_ne (show 1000 * (k + 1) + 19 ≠ 1111 by omega), A_sA_ne (show 1000 * (k + 1) + 20 ≠ 1111 by omega), A_sA_ne (show 1000 * (k + 1) + 21 ≠ 1111 by omega), A_sA_ne (show 1000 * (k + 1) + 24 ≠ 1111 by omega)]
theorem DT_F112 {σ : rS} {k : Nat} {x : Int} : DT (sF σ 0 112 x) k = DT σ k := by
  funext g; unfold DT inD DD DRW DRL; simp only [rA_sF, tr_sF, F_sF_ne (show (7 : Nat) ≠ 112 by decide)]
theorem DT_F113 {σ : rS} {k : Nat} {x : Int} : DT (sF σ 0 113 x) k = DT σ k := by
  funext g; unfold DT inD DD DRW DRL; simp only [rA_sF, tr_sF, F_sF_ne (show (7 : Nat) ≠ 113 by decide)]
theorem DT_a114 {σ : rS} {k : Nat} {i x : Int} (hk : rgk k) : DT (sA σ 1114 i x) k = DT σ k := by
  have h1 := rk_n0 hk
  funext g; unfold DT inD DD DRW DRL; simp only [rF_sA, tr_a114, A_sA_ne (show 1000 * (k + 1) + 15 ≠ 1114 by omega), A_sA_ne (show 1000 * (k + 1) + 18 ≠ 1114 by omega), A_sA_ne (show 1000 * (k + 1) + 19 ≠ 1114 by omega), A_sA_ne (show 1000 * (k + 1) + 20 ≠ 1114 by omega), A_sA_ne (show 1000 * (k + 1) + 21 ≠ 1114 by omega), A_sA_ne (show 1000 * (k + 1) + 24 ≠ 1114 by omega)]
theorem DT_a115 {σ : rS} {k : Nat} {i x : Int} (hk : rgk k) : DT (sA σ 1115 i x) k = DT σ k := by
  have h1 := rk_n0 hk
  funext g; unfold DT inD DD DRW DRL; simp only [rF_sA, tr_a115, A_sA_ne (show 1000 * (k + 1) + 15 ≠ 1115 by omega), A_sA_ne (show 1000 * (k + 1) + 18 ≠ 1115 by omega), A_sA_ne (show 1000 * (k + 1) + 19 ≠ 1115 by omega), A_sA_ne (show 1000 * (k + 1) + 20 ≠ 1115 by omega), A_sA_ne (show 1000 * (k + 1) + 21 ≠ 1115 by omega), A_sA_ne (show 1000 * (k + 1) + 24 ≠ 1115 by omega)]
theorem DT_a116 {σ : rS} {k : Nat} {i x : Int} (hk : rgk k) : DT (sA σ 1116 i x) k = DT σ k := by
  have h1 := rk_n0 hk
  funext g; unfold DT inD DD DRW DRL; simp only [rF_sA, tr_a116, A_sA_ne (show 1000 * (k + 1) + 15 ≠ 1116 by omega), A_sA_ne (show 1000 * (k + 1) + 18 ≠ 1116 by omega), A_sA_ne (show 1000 * (k + 1) + 19 ≠ 1116 by omega), A_sA_ne (show 1000 * (k + 1) + 20 ≠ 1116 by omega), A_sA_ne (show 1000 * (k + 1) + 21 ≠ 1116 by omega), A_sA_ne (show 1000 * (k + 1) + 24 ≠ 1116 by omega)]
theorem DT_a117 {σ : rS} {k : Nat} {i x : Int} (hk : rgk k) : DT (sA σ 1117 i x) k = DT σ k := by
  have h1 := rk_n0 hk
  funext g; unfold DT inD DD DRW DRL; simp only [rF_sA, tr_a117, A_sA_ne (show 1000 * (k + 1) + 15 ≠ 1117 by omega), A_sA_ne (show 1000 * (k + 1) + 18 ≠ 1117 by omega), A_sA_ne (show 1000 * (k + 1) + 19 ≠ 1117 by omega), A_sA_ne (show 1000 * (k + 1) + 20 ≠ 1117 by omega), A_sA_ne (show 1000 * (k + 1) + 21 ≠ 1117 by omega), A_sA_ne (show 1000 * (k + 1) + 24 ≠ 1117 by omega)]
theorem DT_F118 {σ : rS} {k : Nat} {x : Int} : DT (sF σ 0 118 x) k = DT σ k := by
  funext g; unfold DT inD DD DRW DRL; simp only [rA_sF, tr_sF, F_sF_ne (show (7 : Nat) ≠ 118 by decide)]
theorem DT_F119 {σ : rS} {k : Nat} {x : Int} : DT (sF σ 0 119 x) k = DT σ k := by
  funext g; unfold DT inD DD DRW DRL; simp only [rA_sF, tr_sF, F_sF_ne (show (7 : Nat) ≠ 119 by decide)]
theorem DT_a120 {σ : rS} {k : Nat} {i x : Int} (hk : rgk k) : DT (sA σ 1120 i x) k = DT σ k := by
  have h1 := rk_n0 hk
  funext g; unfold DT inD DD DRW DRL; simp only [rF_sA, tr_a120, A_sA_ne (show 1000 * (k + 1) + 15 ≠ 1120 by omega), A_sA_ne (show 1000 * (k + 1) + 18 ≠ 1120 by omega), A_sA_ne (show 1000 * (k + 1) + 19 ≠ 1120 by omega), A_sA_ne (show 1000 * (k + 1) + 20 ≠ 1120 by omega), A_sA_ne (show 1000 * (k + 1) + 21 ≠ 1120 by omega), A_sA_ne (show 1000 * (k + 1) + 24 ≠ 1120 by omega)]
theorem DT_a121 {σ : rS} {k : Nat} {i x : Int} (hk : rgk k) : DT (sA σ 1121 i x) k = DT σ k := by
  have h1 := rk_n0 hk
  funext g; unfold DT inD DD DRW DRL; simp only [rF_sA, tr_a121, A_sA_ne (show 1000 * (k + 1) + 15 ≠ 1121 by omega), A_sA_ne (show 1000 * (k + 1) + 18 ≠ 1121 by omega), A_sA_ne (show 1000 * (k + 1) + 19 ≠ 1121 by omega), A_sA_ne (show 1000 * (k + 1) + 20 ≠ 1121 by omega), A_sA_ne (show 1000 * (k + 1) + 21 ≠ 1121 by omega), A_sA_ne (show 1000 * (k + 1) + 24 ≠ 1121 by omega)]
theorem DT_F122 {σ : rS} {k : Nat} {x : Int} : DT (sF σ 0 122 x) k = DT σ k := by
  funext g; unfold DT inD DD DRW DRL; simp only [rA_sF, tr_sF, F_sF_ne (show (7 : Nat) ≠ 122 by decide)]
theorem DT_F123 {σ : rS} {k : Nat} {x : Int} : DT (sF σ 0 123 x) k = DT σ k := by
  funext g; unfold DT inD DD DRW DRL; simp only [rA_sF, tr_sF, F_sF_ne (show (7 : Nat) ≠ 123 by decide)]
theorem DT_a124 {σ : rS} {k : Nat} {i x : Int} (hk : rgk k) : DT (sA σ 1124 i x) k = DT σ k := by
  have h1 := rk_n0 hk
  funext g; unfold DT inD DD DRW DRL; simp only [rF_sA, tr_a124, A_sA_ne (show 1000 * (k + 1) + 15 ≠ 1124 by omega), A_sA_ne (show 1000 * (k + 1) + 18 ≠ 1124 by omega), A_sA_ne (show 1000 * (k + 1) + 19 ≠ 1124 by omega), A_sA_ne (show 1000 * (k + 1) + 20 ≠ 1124 by omega), A_sA_ne (show 1000 * (k + 1) + 21 ≠ 1124 by omega), A_sA_ne (show 1000 * (k + 1) + 24 ≠ 1124 by omega)]
theorem DT_a125 {σ : rS} {k : Nat} {i x : Int} (hk : rgk k) : DT (sA σ 1125 i x) k = DT σ k := by
  have h1 := rk_n0 hk
  funext g; unfold DT inD DD DRW DRL; simp only [rF_sA, tr_a125, A_sA_ne (show 1000 * (k + 1) + 15 ≠ 1125 by omega), A_sA_ne (show 1000 * (k + 1) + 18 ≠ 1125 by omega), A_sA_ne (show 1000 * (k + 1) + 19 ≠ 1125 by omega), A_sA_ne (show 1000 * (k + 1) + 20 ≠ 1125 by omega), A_sA_ne (show 1000 * (k + 1) + 21 ≠ 1125 by omega), A_sA_ne (show 1000 * (k + 1) + 24 ≠ 1125 by omega)]
theorem DT_a126 {σ : rS} {k : Nat} {i x : Int} (hk : rgk k) : DT (sA σ 1126 i x) k = DT σ k := by
  have h1 := rk_n0 hk
  funext g; unfold DT inD DD DRW DRL; simp only [rF_sA, tr_a126, A_sA_ne (show 1000 * (k + 1) + 15 ≠ 1126 by omega), A_sA_ne (show 1000 * (k + 1) + 18 ≠ 1126 by omega), A_sA_ne (show 1000 * (k + 1) + 19 ≠ 1126 by omega), A_sA_ne (show 1000 * (k + 1) + 20 ≠ 1126 by omega), A_sA_ne (show 1000 * (k + 1) + 21 ≠ 1126 by omega), A_sA_ne (show 1000 * (k + 1) + 24 ≠ 1126 by omega)]
theorem DT_a127 {σ : rS} {k : Nat} {i x : Int} (hk : rgk k) : DT (sA σ 1127 i x) k = DT σ k := by
  have h1 := rk_n0 hk
  funext g; unfold DT inD DD DRW DRL; simp only [rF_sA, tr_a127, A_sA_ne (show 1000 * (k + 1) + 15 ≠ 1127 by omega), A_sA_ne (show 1000 * (k + 1) + 18 ≠ 1127 by omega), A_sA_ne (show 1000 * (k + 1) + 19 ≠ 1127 by omega), A_sA_ne (show 1000 * (k + 1) + 20 ≠ 1127 by omega), A_sA_ne (show 1000 * (k + 1) + 21 ≠ 1127 by omega), A_sA_ne (show 1000 * (k + 1) + 24 ≠ 1127 by omega)]
theorem DT_a128 {σ : rS} {k : Nat} {i x : Int} (hk : rgk k) : DT (sA σ 1128 i x) k = DT σ k := by
  have h1 := rk_n0 hk
  funext g; unfold DT inD DD DRW DRL; simp only [rF_sA, tr_a128, A_sA_ne (show 1000 * (k + 1) + 15 ≠ 1128 by omega), A_sA_ne (show 1000 * (k + 1) + 18 ≠ 1128 by omega), A_sA_ne (show 1000 * (k + 1) + 19 ≠ 1128 by omega), A_sA_ne (show 1000 * (k + 1) + 20 ≠ 1128 by omega), A_sA_ne (show 1000 * (k + 1) + 21 ≠ 1128 by omega), A_sA_ne (show 1000 * (k + 1) + 24 ≠ 1128 by omega)]
theorem DT_a129 {σ : rS} {k : Nat} {i x : Int} (hk : rgk k) : DT (sA σ 1129 i x) k = DT σ k := by
  have h1 := rk_n0 hk
  funext g; unfold DT inD DD DRW DRL; simp only [rF_sA, tr_a129, A_sA_ne (show 1000 * (k + 1) + 15 ≠ 1129 by omega), A_sA_ne (show 1000 * (k + 1) + 18 ≠ 1129 by omega), A_sA_ne (show 1000 * (k + 1) + 19 ≠ 1129 by omega), A_sA_ne (show 1000 * (k + 1) + 20 ≠ 1129 by omega), A_sA_ne (show 1000 * (k + 1) + 21 ≠ 1129 by omega), A_sA_ne (show 1000 * (k + 1) + 24 ≠ 1129 by omega)]
theorem DT_F135 {σ : rS} {k : Nat} {x : Int} : DT (sF σ 0 135 x) k = DT σ k := by
  funext g; unfold DT inD DD DRW DRL; simp only [rA_sF, tr_sF, F_sF_ne (show (7 : Nat) ≠ 135 by decide)]
theorem DT_a136 {σ : rS} {k : Nat} {i x : Int} (hk : rgk k) : DT (sA σ 1136 i x) k = DT σ k := by
  have h1 := rk_n0 hk
  funext g; unfold DT inD DD DRW DRL; simp only [rF_sA, tr_a136, A_sA_ne (show 1000 * (k + 1) + 15 ≠ 1136 by omega), A_sA_ne (show 1000 * (k + 1) + 18 ≠ 1136 by omega), A_sA_ne (show 1000 * (k + 1) + 19 ≠ 1136 by omega), A_sA_ne (show 1000 * (k + 1) + 20 ≠ 1136 by omega), A_sA_ne (show 1000 * (k + 1) + 21 ≠ 1136 by omega), A_sA_ne (show 1000 * (k + 1) + 24 ≠ 1136 by omega)]
theorem DT_F137 {σ : rS} {k : Nat} {x : Int} : DT (sF σ 0 137 x) k = DT σ k := by
  funext g; unfold DT inD DD DRW DRL; simp only [rA_sF, tr_sF, F_sF_ne (show (7 : Nat) ≠ 137 by decide)]
theorem DT_a138 {σ : rS} {k : Nat} {i x : Int} (hk : rgk k) : DT (sA σ 1138 i x) k = DT σ k := by
  have h1 := rk_n0 hk
  funext g; unfold DT inD DD DRW DRL; simp only [rF_sA, tr_a138, A_sA_ne (show 1000 * (k + 1) + 15 ≠ 1138 by omega), A_sA_ne (show 1000 * (k + 1) + 18 ≠ 1138 by omega), A_sA_ne (show 1000 * (k + 1) + 19 ≠ 1138 by omega), A_sA_ne (show 1000 * (k + 1) + 20 ≠ 1138 by omega), A_sA_ne (show 1000 * (k + 1) + 21 ≠ 1138 by omega), A_sA_ne (show 1000 * (k + 1) + 24 ≠ 1138 by omega)]
