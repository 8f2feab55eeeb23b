/-! TEXT of the last BRANCH of an IF that goes on -/
def KB (g g' : Nat → Int → Int) (br v : Int) : Prop := (∀ j m, m ≠ v → (m ≠ br ∨ j ≠ 2) → g' j m = g j m) ∧ (∀ j, j ≠ 3 → j ≠ 5 → j ≠ 8 → g' j v = g j v) ∧ g' 3 v = br ∧ br ≠ v
def gbt (g : Nat → Int → Int) (br v h : Int) : Nat → Int → Int := fun j i => if i = v then (if j = 3 then br else if j = 5 then 0 else if j = 8 then 2 else g j i) else if i = br ∧ j = 2 then h else g j i
theorem gbt_j {g : Nat → Int → Int} {br v h i : Int} {j : Nat} (hj : j ≠ 2 ∧ j ≠ 3 ∧ j ≠ 5 ∧ j ≠ 8) : gbt g br v h j i = g j i := by
  obtain ⟨a, b, c, d⟩ := hj
  unfold gbt; simp only [a, b, c, d, and_false, if_false, ite_self]
theorem gbt_o {g : Nat → Int → Int} {br v h i : Int} {j : Nat} (hi : i ≠ v) (hj : i ≠ br ∨ j ≠ 2) : gbt g br v h j i = g j i := by
  unfold gbt; rw [if_neg hi, if_neg (fun e => by rcases hj with q | q; exact q e.1; exact q e.2)]
theorem gbt_v {g : Nat → Int → Int} {br v h : Int} {j : Nat} (hj : j ≠ 3 ∧ j ≠ 5 ∧ j ≠ 8) : gbt g br v h j v = g j v := by
  obtain ⟨a, b, c⟩ := hj
  unfold gbt; simp only [a, b, c, if_true, if_false]
theorem gbt_2b {g : Nat → Int → Int} {br v h : Int} (hb : br ≠ v) : gbt g br v h 2 br = h := by unfold gbt; rw [if_neg hb, if_pos ⟨rfl, rfl⟩]
theorem gbt_2o {g : Nat → Int → Int} {br v h i : Int} (hb : i ≠ br) : gbt g br v h 2 i = g 2 i := by
  by_cases e : i = v
  · subst e; exact gbt_v (by decide)
  · exact gbt_o e (Or.inl hb)
theorem gbt_3v {g : Nat → Int → Int} {br v h : Int} : gbt g br v h 3 v = br := by unfold gbt; simp
theorem gbt_5v {g : Nat → Int → Int} {br v h : Int} : gbt g br v h 5 v = 0 := by unfold gbt; simp
theorem gbt_8v {g : Nat → Int → Int} {br v h : Int} : gbt g br v h 8 v = 2 := by unfold gbt; simp
set_option maxHeartbeats 4000000 in
theorem GI.brt {N nm d lo x y e n0 l h d' it br v : Int} {t g : Nat → Int → Int} (G : GI N nm t g) (O : OPt N g it 5 d lo x y e) (L : LIt N t g it 1 5 br) (hbr : br ≠ 0) (V : NRt N g 11 v n0 l h d') (hx : x ≤ l) (hy : y ≤ l) (hd : g 4 br ≤ d') : ∃ g', GI N nm (udt t 2 br v) g' ∧ OPt N g' it 5 d lo h h e ∧ LIt N (udt t 2 br v) g' it 1 5 br ∧ KB g g' br v ∧ g 3 br = it := by
  rcases L with L | ⟨l1, l2, l3, l4, l5, l6⟩
  · exact absurd L.1 hbr
  obtain ⟨o1, o2, o3, o4, o5, o6, o7, o8, o9, o10, o11, o12, o13, o14⟩ := O
  obtain ⟨v1, v2, v3, v4, v5, v6, v7, v8, v9⟩ := V
  have gbr := G br l1 l2
  have hub : g 0 br = 8 ∧ g 1 it ≤ g 1 br := by
    rcases gbr.2.1 with u | ⟨uz, u1, f, K, u2, u3, u4⟩
    · omega
    · rw [l3] at u3 u4
      have e1 : f = 1 := by omega
      have e2 : K = 5 := by omega
      subst e1 e2
      have q : so 13 (g 0 br) := u4.2.1
      rw [so_13] at q
      exact ⟨q, u4.2.2.2.1⟩
  have hK8 := hub.1
  have hxb : g 2 br ≤ x := o14 br l1 l2 l3
  have hb12 := gS.be gbr.1
  have hbv : br ≠ v := fun E => by rw [E] at l3; omega
  have hbi : br ≠ it := fun E => by rw [E] at l3; omega
  have sv := gS.be (G v v2 v3).1
  rw [so_11] at v5
  have e0 : ∀ i, gbt g br v h 0 i = g 0 i := fun i => gbt_j (by decide)
  have e1 : ∀ i, gbt g br v h 1 i = g 1 i := fun i => gbt_j (by decide)
  have e4 : ∀ i, gbt g br v h 4 i = g 4 i := fun i => gbt_j (by decide)
  have e6 : ∀ i, gbt g br v h 6 i = g 6 i := fun i => gbt_j (by decide)
  have e7 : ∀ i, gbt g br v h 7 i = g 7 i := fun i => gbt_j (by decide)
  have e3 : ∀ i, i ≠ v → gbt g br v h 3 i = g 3 i := fun i hi => gbt_o hi (Or.inr (by decide))
  have e5 : ∀ i, i ≠ v → gbt g br v h 5 i = g 5 i := fun i hi => gbt_o hi (Or.inr (by decide))
  have e8 : ∀ i, i ≠ v → gbt g br v h 8 i = g 8 i := fun i hi => gbt_o hi (Or.inr (by decide))
  have e2b : gbt g br v h 2 br = h := gbt_2b hbv
  have e2 : ∀ i, i ≠ br → gbt g br v h 2 i = g 2 i := fun i hi => gbt_2o hi
  have e2u : ∀ i, g 2 i ≤ gbt g br v h 2 i := fun i => by
    by_cases hi : i = br
    · rw [hi, e2b]; omega
    · rw [e2 i hi]; exact Int.le_refl _
  have u0 : ∀ f m, (f ≠ 2 ∨ m ≠ br) → udt t 2 br v f m = t f m := fun f m hh => udt_ne hh
  refine ⟨gbt g br v h, fun m h0 h1 => ?_, ⟨o1, o2, by rw [e0]; exact o3, by rw [e3 it (fun E => by rw [E, v4] at o4; subst E; omega)]; exact o4, by rw [e2 it (Ne.symm hbi)]; exact o5, by rw [e4]; exact o6, by rw [e1]; exact o7, by rw [e1]; omega, by omega, fun he => by rw [e7]; exact o10 he, by rw [e7]; omega, by omega, by omega, fun m m0 m1 m3 => ?_⟩, Or.inr ⟨l1, l2, by rw [e3 br hbv]; exact l3, by rw [e8 br hbv]; exact l4, by rw [u0 5 br (Or.inl (by decide))]; exact l5, fun hcn => absurd hcn (by decide)⟩, ⟨fun j m hm hj => gbt_o hm hj, fun j a b c => gbt_v ⟨a, b, c⟩, gbt_3v, hbv⟩, l3⟩
  · obtain ⟨s, u, c, oo, x', n, z⟩ := G m h0 h1
    refine ⟨?_, ?_, ?_, ?_, ?_, ?_, ?_⟩
    · unfold gS at *
      rw [e0, e1, e4, e6, e7, u0 0 m (Or.inl (by decide)), u0 1 m (Or.inl (by decide)), u0 3 m (Or.inl (by decide)), u0 4 m (Or.inl (by decide))]
      obtain ⟨s1, s2, s3, s4, s5, s6, s7, s8, s9, s10, s11, s12, s13, s14, s15, s16, s17⟩ := s
      have q2 := e2u m
      refine ⟨s1, s2, s3, by omega, ?_, s6, s7, ?_, ?_, s10, by omega, ?_, ?_, s14, ?_, s16, s17⟩
      · by_cases hm : m = br
        · rw [hm, e2b]; omega
        · rw [e2 m hm]; exact s5
      · by_cases hv : m = v
        · rw [hv, gbt_5v]; omega
        · rw [e5 m hv]; exact s8
      · by_cases hv : m = v
        · rw [hv, gbt_5v]; omega
        · rw [e5 m hv]; exact s9
      · intro h10
        by_cases hv : m = v
        · rw [hv] at h10; omega
        · rw [e5 m hv]; exact s12 h10
      · intro hq
        rw [u0 2 m (Or.inr (fun E => by rw [E] at hq; omega))]; exact s13 hq
      · intro hq
        rw [e2 m (fun E => by rw [E] at hq; omega)]; exact s15 hq
    · by_cases hv : m = v
      · subst hv
        right
        rw [gbt_3v]
        refine ⟨l1, l2, 2, 8, gbt_8v, by rw [e0]; exact hK8, ?_⟩
        unfold gP
        simp only [e0, e1, e4, e6, e7, e2b]
        refine ⟨by decide, by show so 11 (g 0 m); rw [so_11]; exact v5, by have : ds 2 8 = 0 := rfl; omega, by omega, by rw [e2 m (Ne.symm hbv)]; exact v7, fun q => absurd q (by decide), fun _ q => absurd q (by decide), fun q => absurd q (by decide)⟩
      · rcases u with u | ⟨uz, u1, f', K', u2, u3, u4⟩
        · left
          refine ⟨by rw [e3 m hv]; exact u.1, fun hh => ?_⟩
          rw [e3 m hv] at hh ⊢
          have w := u.2 hh
          rw [e3 _ (fun E => by rw [E] at w; omega)]; exact w
        · right
          rw [e3 m hv]
          refine ⟨uz, u1, f', K', by rw [e8 m hv]; exact u2, by rw [e0]; exact u3, ?_⟩
          unfold gP at *
          simp only [e0, e1, e4, e6, e7]
          obtain ⟨p1, p2, p3, p4, p5, p6, p7, p8⟩ := u4
          refine ⟨p1, p2, p3, p4, ?_, ?_, ?_, p8⟩
          · by_cases hm : m = br
            · rw [hm, e2b, l3, e2 it (Ne.symm hbi), o5]; omega
            · rw [e2 m hm]; have := e2u (g 3 m); omega
          · rw [e5 m hv]; exact p6
          · intro f2 K41
            by_cases hm : m = br
            · exfalso; rw [hm, l3] at u3; omega
            · rw [e2 m hm]; exact p7 f2 K41
    · intro f' K' hf' hK'
      rw [e0] at hK'
      by_cases hb2 : f' = 2 ∧ m = br
      · right; right
        rw [hb2.1, hb2.2, udt_eq]
        exact ⟨v2, v3, gbt_3v, gbt_8v, fun h10 => by rw [e0] at h10; omega⟩
      · rw [u0 f' m (by omega)]
        rcases c f' K' hf' hK' with q | q | ⟨q1, q2, q3, q4, q5⟩
        · exact Or.inl q
        · exact Or.inr (Or.inl q)
        · right; right
          have hv : t f' m ≠ v := fun E => by rw [E] at q3; omega
          rw [e3 _ hv, e8 _ hv, e0, e5 _ hv]
          exact ⟨q1, q2, q3, q4, q5⟩
    · intro K' hK' hO
      rw [e0] at hK'
      have o' := oo K' hK' hO
      have b1 : tb 1 K' ≠ 0 ∧ tb 2 K' ≠ 0 ∧ (K' = 41 → tb 3 K' ≠ 0) ∧ K' ≠ 52 ∧ K' ≠ 5 := by unfold od at hO; split at hO <;> first | decide | exact absurd hO (by decide)
      have hch : t 1 m ≠ 0 → t 1 m ≠ br := by
        intro q E
        rcases c 1 K' b1.1 hK' with q' | q' | ⟨_, _, q3, _⟩
        · exact q q'
        · exact b1.2.2.2.1 q'.2.1
        · rw [E, l3] at q3; rw [← q3] at hK'; omega
      simp only [e1]
      rw [u0 1 m (Or.inl (by decide)), u0 3 m (Or.inl (by decide))]
      refine ⟨fun q1 q2 => ?_, fun k q1 q2 => ?_⟩
      · rw [e2 _ (hch q1)]
        by_cases hm : m = br
        · rw [hm, udt_eq]
          have hK : K' = 8 := by rw [hm] at hK'; omega
          rcases c 1 K' b1.1 hK' with q' | q' | ⟨r1, r2, q3, _⟩
          · exact absurd q' q1
          · exact absurd q'.2.1 b1.2.2.2.1
          · rw [hm] at q1 r1 r2 q3
            rcases (G _ r1 r2).2.1 with u' | ⟨uz, u1, f2, K2, u2, u3, u4⟩
            · omega
            · rw [q3] at u4; have := u4.2.2.2.2.1; omega
        · rw [u0 2 m (Or.inr hm)] at q2 ⊢; exact o'.1 q1 q2
      · rw [e2 _ (hch q1)]; exact o'.2 k q1 q2
    · unfold gX at *
      rw [u0 5 m (Or.inl (by decide))]
      rcases x' with q | ⟨q1, q2, q3, q4, q5, q6, q7, q8⟩
      · exact Or.inl q
      · right
        have hm : m ≠ v := fun E => by subst E; exact q3 v4
        have hv : t 5 m ≠ v := fun E => by rw [E] at q4; omega
        have hb : m ≠ br := fun E => by rw [E, l5] at q1; omega
        rw [e3 _ hm, e3 _ hv, e8 _ hm, e8 _ hv, e0, e1, e2 _ hb, e5 _ hm, e5 _ hv]
        exact ⟨q1, q2, q3, q4, q5, q6, q7, q8⟩
    · intro h3 h5' f' K' hf' hK' hcn
      rw [u0 5 m (Or.inl (by decide))] at h5'
      by_cases hv : m = v
      · subst hv
        rw [gbt_3v, e0] at hK'
        have : K' = 8 := by omega
        subst this
        rw [gbt_8v] at hf'
        have : f' = 2 := by omega
        subst this
        exact absurd hcn (by decide)
      · rw [e3 m hv] at h3 hK' ⊢
        rw [e8 m hv] at hf'
        rw [e0] at hK'
        rw [e5 m hv, e6]
        exact n h3 h5' f' K' hf' hK' hcn
    · unfold gG at *
      rw [e0, e6, u0 1 m (Or.inl (by decide))]
      intro hq
      refine ⟨fun h9 => ?_, (z hq).2⟩
      rw [e2 m (fun E => by rw [E] at hq; omega)] at h9
      exact (z hq).1 h9
  · by_cases hv : m = v
    · rw [hv, gbt_3v] at m3; exact absurd m3 hbi
    · rw [e3 m hv] at m3
      by_cases hm : m = br
      · rw [hm, e2b]; omega
      · rw [e2 m hm]; have := o14 m m0 m1 m3; omega
theorem EB {s : rS} {k : Nat} {g : Nat → Int → Int} {it d lo x y e br v n0 l h d' : Int} (hk : rgk k) (G : GS s k g) (O : OP s k g it 5 d lo x y e) (L : LI s k g it 1 5 br) (V : NR s k g 11 v n0 l h d') (hbr : br ≠ 0) (hx : x ≤ l) (hy : y ≤ l) (hd : g 4 br ≤ d') : ∃ g', GS (sT s k 2 br v) k g' ∧ OP (sT s k 2 br v) k g' it 5 d lo h h e ∧ LI (sT s k 2 br v) k g' it 1 5 br ∧ KB g g' br v ∧ g 3 br = it := by
  have b8 : g 0 br = 8 := by
    rcases L with q | ⟨l1, l2, l3, l4, l5, l6⟩
    · exact absurd q.1 hbr
    · rcases (G.1 br l1 l2).2.1 with gu | ⟨uz, u1, f', K', u2, u3, u4⟩
      · have := O.1; omega
      · rw [l3] at u3 u4
        have o3 := O.2.2.1
        have e1 : f' = 1 := by omega
        have e2 : K' = 5 := by omega
        subst e1 e2
        exact u4.2.1
  obtain ⟨g', a1, a2, a3, a4, a5⟩ := GI.brt G.1 O L hbr V hx hy hd
  have q1 : GQ (sT s k 2 br v) k g' := by
    obtain ⟨c1, c2, c3, c4⟩ := a4
    have ej : ∀ j m, (m ≠ br ∨ j ≠ 2) → j ≠ 3 → j ≠ 5 → j ≠ 8 → g' j m = g j m := fun j m hm j3 j5 j8 => by
      by_cases e : m = v
      · subst e; exact c2 j j3 j5 j8
      · exact c1 j m e hm
    refine GQ.tf (GQ.stt (f := 2) (i := br) (x := v) hk (by decide) G.2 (Or.inr (Or.inl (by omega)))) (Int.le_refl _) rfl (fun _ _ _ q => q) (fun _ _ => rfl) (fun m _ _ => ej 0 m (Or.inr (by decide)) (by decide) (by decide) (by decide)) (fun m m0 m1 m40 m2 => ?_)
    have e : m ≠ br := fun e => by subst e; rw [ej 0 m (Or.inr (by decide)) (by decide) (by decide) (by decide)] at m40; omega
    exact ⟨m1, by rw [← ej 2 m (Or.inl e) (by decide) (by decide) (by decide)]; exact m2, ej 6 m (Or.inl e) (by decide) (by decide) (by decide), rfl⟩
  refine ⟨g', ⟨?_, q1⟩, a2, ?_, a4, a5⟩
  · unfold GS0; rw [tr_u hk (by decide)]; exact a1
  · unfold LI; rw [tr_u hk (by decide)]; exact a3
theorem WD.kb {s : rS} {k : Nat} {g g' : Nat → Int → Int} {a b n1 n2 lo hi br v : Int} (h : WD s k g a b n1 n2 lo hi) (S : KB g g' br v) (hv : v < n1 ∨ n2 ≤ v) (hb : br < n1 ∨ n2 ≤ br) : WD s k g' a b n1 n2 lo hi := by
  obtain ⟨a1, a2, a3, a4⟩ := S
  refine WDt.chg h (Int.le_refl _) (fun _ _ _ => ⟨rfl, rfl⟩) (fun j m m1 m2 hj _ => a1 j m (by omega) (Or.inl (by omega))) (fun m m0 m1 => ?_)
  by_cases hm : m = v
  · subst hm; rw [a3]; omega
  · exact Or.inl ⟨m1, a1 3 m hm (Or.inr (by decide))⟩
theorem BK.kb {s t : rS} {k : Nat} {g h h' : Nat → Int → Int} {n1 n1' br v : Int} (B : BK s t k g h n1 n1') (S : KB h h' br v) (hv : rF s k 7 ≤ v) (hb : rF s k 7 ≤ br) : BK s t k g h' n1 n1' := by
  obtain ⟨a1, a2, a3, a4, a5, a6, a7, a8⟩ := B
  obtain ⟨S1, S2, S3, S4⟩ := S
  refine ⟨a1, a2, a3, a4, a5, fun j m hm hn => (S1 j m (by omega) (Or.inl (by omega))).trans (a6 j m hm hn), fun m m1 m2 => ?_, fun m m1 m2 => ?_⟩
  · rw [S1 3 m (by omega) (Or.inl (by omega)), S1 2 m (by omega) (Or.inl (by omega))]; exact a7 m m1 m2
  · by_cases hm : m = v
    · subst hm; rw [S3]; omega
    · rw [S1 3 m hm (Or.inr (by decide))]; exact a8 m m1 m2

/-! what build and element want and leave -/
abbrev GBt := (Nat → Int → Int) × List Int × Int × Int × Int × Int
def BPx (σ : rS) (k : Nat) (g : Nat → Int → Int) (S : List Int) (n1 n2 lo hi : Int) : Prop := GS σ k g ∧ WD σ k g (rF σ 0 42) (rF σ 0 38) n1 n2 lo hi ∧ WS (rA σ 1034) (rF σ 0 42) (rF σ 0 38) S [] ∧ S.length ≤ 20
def BPre (σ : rS) (k : Nat) (B : GBt) : Prop := BPx σ k B.1 B.2.1 B.2.2.1 B.2.2.2.1 B.2.2.2.2.1 B.2.2.2.2.2
def BQx (σ s : rS) (k : Nat) (g : Nat → Int → Int) (S : List Int) (n1 n2 lo hi : Int) (h : Nat → Int → Int) (n1' x' : Int) : Prop := BK σ s k g h n1 n1' ∧ GS s k h ∧ WD s k h (rF s 0 42) (rF s 0 38) n1' n2 x' hi ∧ WS (rA s 1034) (rF s 0 42) (rF s 0 38) S [] ∧ lo ≤ x' ∧ n2 ≤ rF σ k 7 ∧ 0 ≤ lo
def clo (q : Int) : Prop := q = 22 ∨ q = 23 ∨ q = 24 ∨ q = 26
def BQb1 (σ s : rS) (k : Nat) (g : Nat → Int → Int) (S : List Int) (n1 n2 lo hi r : Int) : Prop := ∃ h n1' x', BQx σ s k g S n1 n2 lo hi h n1' x' ∧ NR s k h 11 r (rF σ k 7) lo x' S.length ∧ (rF s 0 42 = rF s 0 38 ∨ rF s 0 42 < rF s 0 38 ∧ clo (rA s 1034 (rF s 0 42)))
def BQb (σ s : rS) (k : Nat) (B : GBt) (r : Int) : Prop := BQb1 σ s k B.1 B.2.1 B.2.2.1 B.2.2.2.1 B.2.2.2.2.1 B.2.2.2.2.2 r
def BQe1 (σ s : rS) (k : Nat) (g : Nat → Int → Int) (S : List Int) (n1 n2 lo hi r : Int) : Prop := ∃ h n1' x' d', BQx σ s k g S n1 n2 lo hi h n1' x' ∧ NR s k h 12 r n1 lo x' d' ∧ (S.length : Int) ≤ d' ∧ (r < n1' ∨ rF σ k 7 ≤ r)
def BQe (σ s : rS) (k : Nat) (B : GBt) (r : Int) : Prop := BQe1 σ s k B.1 B.2.1 B.2.2.1 B.2.2.2.1 B.2.2.2.2.1 B.2.2.2.2.2 r
def BLX (σ s : rS) (k : Nat) (g : Nat → Int → Int) (S : List Int) (n1 n2 lo hi last : Int) (h : Nat → Int → Int) (n1' x' : Int) : Prop := BQx σ s k g S n1 n2 lo hi h n1' x' ∧ OP s k h (rF σ k 7) 9 S.length lo x' x' 0 ∧ LI s k h (rF σ k 7) 1 9 last ∧ (last = 0 ∨ h 5 last ≤ rF s 0 42 ∧ n1 ≤ last ∧ (last < n1' ∨ rF σ k 7 ≤ last)) ∧ S.length ≤ 20
def BLI (σ s : rS) (k : Nat) (B : GBt) (last : Int) : Prop := ∃ h n1' x', BLX σ s k B.1 B.2.1 B.2.2.1 B.2.2.2.1 B.2.2.2.2.1 B.2.2.2.2.2 last h n1' x'
/-- a node was made -/
def ND (s t : rS) (k : Nat) (r x1 x2 x3 : Int) : Prop := RG s t k 0 ∧ r = rF s k 7 ∧ rF t k 7 = rF s k 7 + 1 ∧ tr t k 0 r = x1 ∧ tr t k 1 r = x2 ∧ tr t k 2 r = x3 ∧ tr t k 5 r = 0 ∧ rF s k 12 ≤ rF t k 12 ∧ rF t 0 38 = rF s 0 38 ∧ rF t k 38 = rF s k 38
theorem WD_F42 {s : rS} {k : Nat} {z : Int} : WD (sF s 0 42 z) k = WD s k := by
  funext g a b n1 n2 lo hi; unfold WD; rw [F_sF_ne (show (7 : Nat) ≠ 42 by decide)]; rfl
theorem BK_F42 {s t : rS} {k : Nat} {g h : Nat → Int → Int} {z n1 n1' : Int} : BK s (sF t 0 42 z) k g h n1 n1' = BK s t k g h n1 n1' := by
  unfold BK; rw [F_sF_ne (show (7 : Nat) ≠ 42 by decide), tr_sF]
theorem BK_L42 {s t : rS} {k : Nat} {g h : Nat → Int → Int} {z n1 n1' : Int} : BK (sF s 0 42 z) t k g h n1 n1' = BK s t k g h n1 n1' := by
  unfold BK; rw [F_sF_ne (show (7 : Nat) ≠ 42 by decide), tr_sF]
theorem f42 {s : rS} {z : Int} : rF (sF s 0 42 z) 0 42 = z := F_sF _ _ _ _
theorem f42n {s : rS} {z : Int} {k f : Nat} (h : f ≠ 42) : rF (sF s 0 42 z) k f = rF s k f := F_sF_ne h
theorem BLI.init {σ s : rS} {k : Nat} {B : GBt} {r : Int} (hk : rgk k) (P : BPre σ k B) (D : ND σ s k r 9 0 0) (e42 : rF s 0 42 = rF σ 0 42) (h0 : 0 < rF σ k 7) : BLI σ s k B 0 := by
  obtain ⟨g, S, n1, n2, lo, hi⟩ := B
  obtain ⟨G, W, T, l20⟩ := P
  obtain ⟨R, hr, hN, t0, t1, t2, t5, hn, e38, c38⟩ := D
  simp only at G W T l20
  show ∃ h n1' x', BLX σ s k g S n1 n2 lo hi 0 h n1' x'
  have w0 := W.1; have w1 := W.2.1; have w2 := W.2.2.1; have w3 := W.2.2.2.1; have w4 := W.2.2.2.2.1; have w5 := W.2.2.2.2.2.1
  obtain ⟨h, X⟩ := EN_9 (P := True) lo (S.length : Int) hk (fun _ => G) (fun _ => R) hr hN t0 t1 t2 t5 (fun _ => ⟨h0, by omega, by omega, hn, rfl, trivial⟩)
  obtain ⟨x1, x2, x3, x4⟩ := X trivial
  have W' := W.gk R x2 (Int.le_refl _) (Or.inl rfl)
  have T' := T.cg (b' := rA s 1034) (fun j _ j2 => (R.2.2.2.2.1 j j2).1)
  subst hr
  exact ⟨h, n1, lo, ⟨BK.new hk (BK.rf w0 (by omega)) x2 R, x1, by rw [e42, e38]; exact W', by rw [e42, e38]; exact T', Int.le_refl _, w2, w3⟩, x3.cst, LI.z (fun q => absurd q (by decide)), Or.inl rfl, l20⟩
theorem BLX.skip {σ s : rS} {k : Nat} {g h : Nat → Int → Int} {S : List Int} {n1 n2 lo hi last n1' x' : Int} (I : BLX σ s k g S n1 n2 lo hi last h n1' x') (hb : rF s 0 42 < rF s 0 38) (hq : stp (rA s 1034 (rF s 0 42)) S = some S) : BLX σ (sF s 0 42 (rF s 0 42 + 1)) k g S n1 n2 lo hi last h n1' x' := by
  obtain ⟨⟨K, G, W, T, e1, e2, e3⟩, O, L, l5, l20⟩ := I
  obtain ⟨S', q1, q2⟩ := T.hd hb
  rw [hq] at q1
  have q3 := Option.some.inj q1
  subst q3
  refine ⟨⟨by rw [BK_F42]; exact K, by rw [GS_F42]; exact G, ?_, ?_, e1, e2, e3⟩, by rw [OP_F42]; exact O, by rw [LI_F42]; exact L, ?_, l20⟩
  · rw [WD_F42, f42, f42n (by decide)]; exact W.h0
  · rw [f42, f42n (by decide)]; exact q2
  · rw [f42]; omega
theorem BLI.skip {σ s : rS} {k : Nat} {B : GBt} {last : Int} (I : BLI σ s k B last) (hb : rF s 0 42 < rF s 0 38) (hq : ∀ L, stp (rA s 1034 (rF s 0 42)) L = some L) : BLI σ (sF s 0 42 (rF s 0 42 + 1)) k B last := by
  obtain ⟨h, n1', x', I⟩ := I
  exact ⟨h, n1', x', I.skip hb (hq _)⟩
theorem BLX.pre {σ s : rS} {k : Nat} {g h : Nat → Int → Int} {S : List Int} {n1 n2 lo hi last n1' x' : Int} (I : BLX σ s k g S n1 n2 lo hi last h n1' x') : BPx s k h S n1' n2 x' hi := ⟨I.1.2.1, I.1.2.2.1, I.1.2.2.2.1, I.2.2.2.2⟩
theorem BLX.el {σ s t : rS} {k : Nat} {g h : Nat → Int → Int} {S : List Int} {n1 n2 lo hi last n1' x' r : Int} (I : BLX σ s k g S n1 n2 lo hi last h n1' x') (E : BQe1 s t k h S n1' n2 x' hi r) (h0 : 0 < rF s k 7) : ∃ h2 n1'' x'' d', BQx σ t k g S n1 n2 lo hi h2 n1'' x'' ∧ OP t k h2 (rF σ k 7) 9 S.length lo x' x' 0 ∧ LI t k h2 (rF σ k 7) 1 9 last ∧ (last = 0 ∨ h2 5 last ≤ rF s 0 42 ∧ n1 ≤ last ∧ (last < n1'' ∨ rF σ k 7 ≤ last)) ∧ NR t k h2 12 r n1 x' x'' d' ∧ (S.length : Int) ≤ d' ∧ (r < n1'' ∨ rF σ k 7 ≤ r) ∧ x' ≤ x'' := by
  obtain ⟨⟨K, G, W, T, e1, e2, e3⟩, O, L, l5, l20⟩ := I
  obtain ⟨h2, n1'', x'', d', ⟨K', G', W', T', e1', e2', e3'⟩, V, hd, hr⟩ := E
  have w1 := W'.2.1
  have k1 := K.1; have k3 := K.2.2.1; have k4 := K.2.2.2.1
  have k3' := K'.2.2.1
  have KK := K.trans K' (by omega)
  have k2 := K.2.1
  have v8 := V.2.2.2.2.2.2.2.1
  have v1 := V.1
  refine ⟨h2, n1'', x'', d', ⟨KK, G', W', T', by omega, e2, e3⟩, O.bk K' (by omega), L.bk rfl K' (by omega), ?_, V.cst rfl, hd, by omega, e1'⟩
  by_cases hl : last = 0
  · exact Or.inl hl
  · right
    have hlN : last < rF s k 7 := by
      rcases L with q | q
      · exact absurd q.1 hl
      · exact q.2.1
    rw [K'.2.2.2.2.2.1 5 last hlN (by omega)]
    omega
theorem BLX.h0 {σ s t : rS} {k : Nat} {g h : Nat → Int → Int} {S : List Int} {n1 n2 lo hi last n1' x' r : Int} (hk : rgk k) (I : BLX σ s k g S n1 n2 lo hi last h n1' x') (E : BQe1 s t k h S n1' n2 x' hi r) (h0 : 0 < rF s k 7) (hl : last = 0) (hw : 0 ≤ rF t 0 42 ∧ rF t 0 42 ≤ 9000) : ∃ h' n1'' x'', BLX σ (sT t k 1 (rF σ k 7) r) k g S n1 n2 lo hi r h' n1'' x'' := by
  have l20 := I.2.2.2.2
  obtain ⟨h2, n1'', x'', d', ⟨K, G, W, T, e1, e2, e3⟩, O, L, l5, V, hd, hr, hx⟩ := I.el E h0
  have w1 := W.2.1
  have v1 := V.1
  obtain ⟨g3, X⟩ := EH_1_9 (P := True) (rF t 0 42) hk (fun _ => G) (fun _ => O) (fun _ => V) (fun _ q => q) (fun _ => ⟨Int.le_refl _, Int.le_refl _, by omega, hw⟩)
  obtain ⟨x1, x2, x3, x4, x5, x6, x7⟩ := X trivial
  exact ⟨g3, n1'', x'', ⟨(BK.st hk (by decide) K (Or.inr (Int.le_refl _))).ks x4 (by omega) (by omega), x1, (W.st hk).ks x4 (by omega) (by omega), by rw [show rA (sT t k 1 (rF σ k 7) r) 1034 = rA t 1034 from funext (fun j => rA_sT34 hk)]; exact T, by omega, e2, e3⟩, x2, x3, Or.inr ⟨by rw [x7]; exact Int.le_refl _, v1, hr⟩, l20⟩
theorem BLX.h1 {σ s t : rS} {k : Nat} {g h : Nat → Int → Int} {S : List Int} {n1 n2 lo hi last n1' x' r : Int} (hk : rgk k) (I : BLX σ s k g S n1 n2 lo hi last h n1' x') (E : BQe1 s t k h S n1' n2 x' hi r) (h0 : 0 < rF s k 7) (hl : last ≠ 0) (hw : rF s 0 42 < rF t 0 42 ∧ rF t 0 42 ≤ 9000) : ∃ h' n1'' x'', BLX σ (sT t k 5 last r) k g S n1 n2 lo hi r h' n1'' x'' := by
  have l20 := I.2.2.2.2
  obtain ⟨h2, n1'', x'', d', ⟨K, G, W, T, e1, e2, e3⟩, O, L, l5, V, hd, hr, hx⟩ := I.el E h0
  have w1 := W.2.1
  have v1 := V.1
  have l5' : h2 5 last ≤ rF s 0 42 ∧ n1 ≤ last ∧ (last < n1'' ∨ rF σ k 7 ≤ last) := by rcases l5 with q | q; exact absurd q hl; exact q
  obtain ⟨g3, X⟩ := EA_1_9 (P := True) (rF t 0 42) hk (fun _ => G) (fun _ => O) (fun _ => L) (fun _ => V) (fun _ q => q) (fun _ => ⟨Int.le_refl _, Int.le_refl _, by omega, hl, by omega, hw.2⟩)
  obtain ⟨x1, x2, x3, x4, x5, x6, x7, x8, x9⟩ := X trivial
  exact ⟨g3, n1'', x'', ⟨(BK.st hk (by decide) K (by omega)).ks x4 (by omega) (by omega), x1, (W.st hk).ks x4 (by omega) (by omega), by rw [show rA (sT t k 5 last r) 1034 = rA t 1034 from funext (fun j => rA_sT34 hk)]; exact T, by omega, e2, e3⟩, x2, x3, Or.inr ⟨by rw [x7]; exact Int.le_refl _, v1, hr⟩, l20⟩
theorem BLI.out {σ s : rS} {k : Nat} {B : GBt} {last : Int} (I : BLI σ s k B last) (hc : rF s 0 42 = rF s 0 38 ∨ rF s 0 42 < rF s 0 38 ∧ clo (rA s 1034 (rF s 0 42))) : BQb σ s k B (rF σ k 7) := by
  obtain ⟨g, S, n1, n2, lo, hi⟩ := B
  obtain ⟨h, n1', x', ⟨K, G, W, T, e1, e2, e3⟩, O, L, l5, l20⟩ := I
  simp only at K G W T e1 e2 e3 O L l5 l20
  show BQb1 σ s k g S n1 n2 lo hi (rF σ k 7)
  have w1 := W.2.1; have w2 := W.2.2.2.2.1; have w3 := W.2.2.2.2.2.1
  obtain ⟨g3, X⟩ := EC_9 (P := True) x' (fun _ => G) (fun _ => O) (fun _ => by omega)
  obtain ⟨x1, x2, x3⟩ := X trivial
  exact ⟨g3, n1', x', ⟨K.kc x3 (Or.inr (Int.le_refl _)), x1, W.kc x3 (by omega), T, e1, e2, e3⟩, x2, hc⟩
/-! element -/
theorem EL.byte {σ t : rS} {k : Nat} {B : GBt} {r q z : Int} (hk : rgk k) (P : BPre σ k B) (D : ND σ t k r q z 0) (e42 : rF t 0 42 = rF σ 0 42 + 1) (hb : rF σ 0 42 < rF σ 0 38) (hw : rA σ 1034 (rF σ 0 42) = q) (hq : q = 1 ∨ q = 2 ∨ q = 3) (h0 : 0 < rF σ k 7) : BQe σ t k B r := by
  obtain ⟨g, S, n1, n2, lo, hi⟩ := B
  obtain ⟨G, W, T, l20⟩ := P
  obtain ⟨R, hr, hN, t0, t1, t2, t5, hn, e38, c38⟩ := D
  simp only at G W T l20
  show BQe1 σ t k g S n1 n2 lo hi r
  have w0 := W.1; have w1 := W.2.1; have w2 := W.2.2.1; have w3 := W.2.2.2.1; have w4 := W.2.2.2.2.1; have w5 := W.2.2.2.2.2.1
  have Y : ∃ h, GS t k h ∧ GK g h (rF σ k 7) (rF t k 7) 0 ∧ NR t k h 12 r r lo lo 21 := by
    rcases hq with rfl | rfl | rfl
    · obtain ⟨h, X⟩ := EN_1 (P := True) lo 21 hk (fun _ => G) (fun _ => R) hr hN t0 t1 t2 t5 (fun _ => ⟨h0, by omega, by omega, hn, trivial, trivial⟩)
      obtain ⟨x1, x2, x3, x4⟩ := X trivial
      obtain ⟨h', X'⟩ := EC_1 (P := True) lo (fun _ => x1) (fun _ => x3) (fun _ => by omega)
      obtain ⟨y1, y2, y3⟩ := X' trivial
      exact ⟨h', y1, GK.kc x2 y3 (by omega), y2⟩
    · obtain ⟨h, X⟩ := EN_2 (P := True) lo 21 hk (fun _ => G) (fun _ => R) hr hN t0 t1 t2 t5 (fun _ => ⟨h0, by omega, by omega, hn, trivial, trivial⟩)
      obtain ⟨x1, x2, x3, x4⟩ := X trivial
      obtain ⟨h', X'⟩ := EC_2 (P := True) lo (fun _ => x1) (fun _ => x3) (fun _ => by omega)
      obtain ⟨y1, y2, y3⟩ := X' trivial
      exact ⟨h', y1, GK.kc x2 y3 (by omega), y2⟩
    · obtain ⟨h, X⟩ := EN_3 (P := True) lo 21 hk (fun _ => G) (fun _ => R) hr hN t0 t1 t2 t5 (fun _ => ⟨h0, by omega, by omega, hn, trivial, trivial⟩)
      obtain ⟨x1, x2, x3, x4⟩ := X trivial
      obtain ⟨h', X'⟩ := EC_3 (P := True) lo (fun _ => x1) (fun _ => x3) (fun _ => by omega)
      obtain ⟨y1, y2, y3⟩ := X' trivial
      exact ⟨h', y1, GK.kc x2 y3 (by omega), y2⟩
  obtain ⟨h, y1, y2, y3⟩ := Y
  obtain ⟨S', q1, q2⟩ := T.hd hb
  rw [hw, stp_o (by omega)] at q1
  have q3 := Option.some.inj q1
  subst q3
  have W' := W.h0.gk R y2 (Int.le_refl _) (Or.inl rfl)
  have T' := q2.cg (b' := rA t 1034) (fun j _ j2 => (R.2.2.2.2.1 j j2).1)
  exact ⟨h, n1, lo, 21, ⟨BK.new hk (BK.rf w0 (by omega)) y2 R, y1, by rw [e42, e38]; exact W', by rw [e42, e38]; exact T', Int.le_refl _, w2, w3⟩, y3.cst, by omega, by omega⟩
theorem EL.word {σ : rS} {k : Nat} {B : GBt} {q : Int} (P : BPre σ k B) (hb : rF σ 0 42 < rF σ 0 38) (hw : rA σ 1034 (rF σ 0 42) = q) (hq : q = 4 ∨ q = 6 ∨ q = 7) : BQe σ (sF σ 0 42 (rF σ 0 42 + 1)) k B (rA σ 1035 (rF σ 0 42)) := by
  obtain ⟨g, S, n1, n2, lo, hi⟩ := B
  obtain ⟨G, W, T, l20⟩ := P
  simp only at G W T l20
  show BQe1 σ (sF σ 0 42 (rF σ 0 42 + 1)) k g S n1 n2 lo hi (rA σ 1035 (rF σ 0 42))
  have w0 := W.1; have w1 := W.2.1; have w2 := W.2.2.1; have w3 := W.2.2.2.1; have w4 := W.2.2.2.2.1; have w5 := W.2.2.2.2.2.1
  obtain ⟨V, W', v1, v2, v3⟩ := W.h4 hb hw hq
  obtain ⟨S', q1, q2⟩ := T.hd hb
  rw [hw, stp_o (by omega)] at q1
  have q3 := Option.some.inj q1
  subst q3
  refine ⟨g, rA σ 1035 (rF σ 0 42) + 1, g 2 (rA σ 1035 (rF σ 0 42)), 21, ⟨by rw [BK_F42]; exact (BK.rf w0 (by omega)).adv (by omega) (by omega), by rw [GS_F42]; exact G, ?_, ?_, v3, w2, w3⟩, ?_, by omega, by omega⟩
  · rw [WD_F42, f42, f42n (by decide)]; exact W'
  · rw [f42, f42n (by decide)]; exact q2
  · rw [NR_F42]; exact V.cst rfl (Int.le_refl _) (Int.le_refl _) v1 (V.2.2.2.2.2.2.2.1)
theorem EL.p1 {σ : rS} {k : Nat} {g : Nat → Int → Int} {S : List Int} {n1 n2 lo hi : Int} (P : BPx σ k g S n1 n2 lo hi) (hb : rF σ 0 42 < rF σ 0 38) (hw : rA σ 1034 (rF σ 0 42) = 25) : BPx (sF σ 0 42 (rF σ 0 42 + 1)) k g (25 :: S) (rA σ 1035 (rF σ 0 42) + 1) n2 (g 1 (rA σ 1035 (rF σ 0 42))) hi ∧ S.length < 20 ∧ 0 < rA σ 1035 (rF σ 0 42) ∧ rA σ 1035 (rF σ 0 42) < rF σ k 7 := by
  obtain ⟨G, W, T, l20⟩ := P
  obtain ⟨O, W', v1, v2, v3⟩ := W.h25 hb hw
  obtain ⟨S', q1, q2⟩ := T.hd hb
  rw [hw] at q1
  obtain ⟨q3, q4⟩ := stp_5 q1 (Or.inr rfl)
  subst q4
  have w0 := W.1; have w2 := W.2.2.1
  refine ⟨⟨by rw [GS_F42]; exact G, ?_, ?_, by simp; omega⟩, q3, by omega, by omega⟩
  · rw [WD_F42, f42, f42n (by decide)]; exact W'
  · rw [f42, f42n (by decide)]; exact q2
theorem WS.cl25 {b : Int → Int} {a e : Int} {S : List Int} (T : WS b a e (25 :: S) []) (hc : a = e ∨ a < e ∧ clo (b a)) : a < e ∧ b a = 26 ∧ WS b (a + 1) e S [] := by
  rcases hc with q | ⟨q, c⟩
  · have := T.fin q; cases this
  · obtain ⟨S', q1, q2⟩ := T.hd q
    rcases c with c | c | c | c <;> rw [c] at q1
    · obtain ⟨t, e1, e2⟩ := stp_22 q1; cases e1
    · obtain ⟨t, e1, e2⟩ := stp_23 q1; cases e1
    · obtain ⟨x, e1, e2⟩ := stp_24 q1; cases e1; omega
    · have := stp_26 q1; cases this; exact ⟨q, c, q2⟩
theorem EL.p2 {σ t : rS} {k : Nat} {g : Nat → Int → Int} {S : List Int} {n1 n2 lo hi r : Int} (hk : rgk k) (P : BPx σ k g S n1 n2 lo hi) (hb : rF σ 0 42 < rF σ 0 38) (hw : rA σ 1034 (rF σ 0 42) = 25) (E : BQb1 (sF σ 0 42 (rF σ 0 42 + 1)) t k g (25 :: S) (rA σ 1035 (rF σ 0 42) + 1) n2 (g 1 (rA σ 1035 (rF σ 0 42))) hi r) (h0 : 0 < rF σ k 7) : BQe1 σ (sF (sT t k 2 (rA σ 1035 (rF σ 0 42)) r) 0 42 (rF t 0 42 + 1)) k g S n1 n2 lo hi (rA σ 1035 (rF σ 0 42)) ∧ rF t 0 42 < rF t 0 38 := by
  obtain ⟨G, W, T, l20⟩ := P
  have w0 := W.1; have w1 := W.2.1; have w2 := W.2.2.1; have w3 := W.2.2.2.1; have w4 := W.2.2.2.2.1; have w5 := W.2.2.2.2.2.1
  obtain ⟨O, W', v1, v2, v3⟩ := W.h25 hb hw
  obtain ⟨h2, n1', x', ⟨K2, G2, W2, T2, e1, e2, e3⟩, V, hc⟩ := E
  rw [BK_L42] at K2
  rw [f42n (by decide)] at e2 V
  obtain ⟨c1, c2, T3⟩ := T2.cl25 hc
  have y1 := W2.2.1; have y2 := W2.2.2.2.2.1; have y3 := W2.2.2.2.2.2.1
  have KK := ((BK.rf (k := k) (g := g) (s := σ) w0 (by omega)).adv (show n1 ≤ rA σ 1035 (rF σ 0 42) + 1 by omega) (by omega)).trans K2 (by omega)
  have k3 := K2.2.2.1
  have O2 := O.bk K2 (Or.inl (by omega))
  obtain ⟨g3, X⟩ := EH_2_6 (P := True) hk (fun _ => G2) (fun _ => O2) (fun _ => V) (fun _ q => q) (fun _ => by refine ⟨by omega, Int.le_refl _, by simp; omega⟩)
  obtain ⟨x1, x2, x3, x4, x5, x6⟩ := X trivial
  have v0 := V.1
  obtain ⟨g4, Y⟩ := EC_6 (P := True) x' (fun _ => x1) (fun _ => x2) (fun _ => by omega)
  obtain ⟨z1, z2, z3⟩ := Y trivial
  have K3 := ((BK.st (f := 2) (x := r) (i := rA σ 1035 (rF σ 0 42)) hk (by decide) KK (by omega)).ks x4 (by omega) (by omega)).kc z3 (by omega)
  have W3 := (((W2.h0.st (f := 2) (x := r) (i := rA σ 1035 (rF σ 0 42)) hk).ks x4 (by omega) (by omega)).kc z3 (by omega))
  refine ⟨⟨g4, n1', x', 21, ⟨by rw [BK_F42]; exact K3, by rw [GS_F42]; exact z1, ?_, ?_, by omega, w2, w3⟩, ?_, by omega, by omega⟩, c1⟩
  · rw [WD_F42, f42, f42n (by decide)]; exact W3
  · rw [f42, f42n (by decide), show rA (sF (sT t k 2 (rA σ 1035 (rF σ 0 42)) r) 0 42 (rF t 0 42 + 1)) 1034 = rA t 1034 from funext (fun j => rA_sT34 hk)]; exact T3
  · rw [NR_F42]; exact z2.cst rfl (Int.le_refl _) (Int.le_refl _) (by omega) (by omega)
/-- an IF that is being made: its last BRANCH waits for its TEXT -/
def MIX (σ s : rS) (k : Nat) (g : Nat → Int → Int) (S : List Int) (n1 n2 lo hi it br : Int) (h : Nat → Int → Int) (S' : List Int) (n1' x' : Int) : Prop := BQx σ s k g S' n1 n2 lo hi h n1' x' ∧ OP s k h it 5 S.length lo x' x' 0 ∧ LI s k h it 1 5 br ∧ br ≠ 0 ∧ h 5 br ≤ rF s 0 42 ∧ h 4 br = (S.length : Int) + 1 ∧ rF σ k 7 ≤ it ∧ rF σ k 7 ≤ br ∧ S.length < 20 ∧ (S' = 5 :: S ∨ S' = 23 :: S)
def MID (σ s : rS) (k : Nat) (B : GBt) (it br : Int) : Prop := ∃ h S' n1' x', MIX σ s k B.1 B.2.1 B.2.2.1 B.2.2.2.1 B.2.2.2.2.1 B.2.2.2.2.2 it br h S' n1' x'
def ELI (σ s : rS) (k : Nat) (B : GBt) (it br : Int) : Prop := MID σ s k B it br ∧ rF s 0 42 < rF s 0 38 ∧ (rA s 1034 (rF s 0 42) = 22 ∨ rA s 1034 (rF s 0 42) = 23 ∨ rA s 1034 (rF s 0 42) = 24)
theorem MIX.pre {σ s : rS} {k : Nat} {g h : Nat → Int → Int} {S S' : List Int} {n1 n2 lo hi it br n1' x' : Int} (I : MIX σ s k g S n1 n2 lo hi it br h S' n1' x') : BPx s k h S' n1' n2 x' hi ∧ S'.length = S.length + 1 ∧ S.length < 20 := by
  obtain ⟨⟨K, G, W, T, e1, e2, e3⟩, O, L, b0, b5, b4, i1, i2, l20, hS⟩ := I
  have hl : S'.length = S.length + 1 := by rcases hS with q | q <;> rw [q] <;> rfl
  exact ⟨⟨G, W, T, by omega⟩, hl, l20⟩
theorem EL.if1 {σ t t2 : rS} {k : Nat} {B : GBt} {it br : Int} (hk : rgk k) (P : BPre σ k B) (hb : rF σ 0 42 < rF σ 0 38) (hw : rA σ 1034 (rF σ 0 42) = 5) (D : ND σ t k it 5 0 0) (D2 : ND t t2 k br 8 (rA σ 1035 (rF σ 0 42)) 0) (e42 : rF t2 0 42 = rF σ 0 42 + 1) (h0 : 0 < rF σ k 7) (hw2 : 0 ≤ rF σ 0 42 ∧ rF σ 0 38 ≤ 9000) : MID σ (sT t2 k 1 it br) k B it br := by
  obtain ⟨g, S, n1, n2, lo, hi⟩ := B
  obtain ⟨G, W, T, l20⟩ := P
  simp only at G W T l20
  show ∃ h S' n1' x', MIX σ (sT t2 k 1 it br) k g S n1 n2 lo hi it br h S' n1' x'
  have w0 := W.1; have w1 := W.2.1; have w2 := W.2.2.1; have w3 := W.2.2.2.1; have w4 := W.2.2.2.2.1; have w5 := W.2.2.2.2.2.1
  obtain ⟨C, W', v1, v2, v3⟩ := W.h5 hb hw (Or.inl rfl)
  obtain ⟨S', q1, q2⟩ := T.hd hb
  rw [hw] at q1
  obtain ⟨q3, q4⟩ := stp_5 q1 (Or.inl rfl)
  subst q4
  obtain ⟨R, hr, hN, t0, t1, t2', t5, hn, e38, c38⟩ := D
  obtain ⟨Rb, hrb, hNb, tb0, tb1, tb2, tb5, hnb, e38b, c38b⟩ := D2
  obtain ⟨h, X⟩ := EN_5 (P := True) lo (S.length : Int) hk (fun _ => G) (fun _ => R) hr hN t0 t1 t2' t5 (fun _ => ⟨h0, by omega, by omega, hn, rfl, trivial⟩)
  obtain ⟨x1, x2, x3, x4⟩ := X trivial
  have K1 := BK.new hk ((BK.rf (k := k) (g := g) (s := σ) w0 (by omega)).adv (show n1 ≤ rA σ 1035 (rF σ 0 42) + 1 by omega) (by omega)) x2 R
  have C1 := C.gk x2
  have W1 := W'.gk R x2 (Int.le_refl _) (Or.inl rfl)
  have c8 := C.2.2.2.2.2.2.2.1
  obtain ⟨h2, X2⟩ := EV_8 (P := True) lo ((S.length : Int) + 1) hk (fun _ => x1) (fun _ => C1) (fun _ q => q) (fun _ => Rb) hrb hNb tb0 tb1 tb2 tb5 (fun _ => ⟨by omega, by omega, by omega, hnb, rfl, by omega, by have := (G.1 _ C.2.1 C.2.2.1).1.2.2.2.2.2.1; have := C.2.2.2.2.2.2.2.2; omega⟩)
  obtain ⟨y1, y2, y3, y4, y5, y6⟩ := X2 trivial
  have K2 := BK.kv hk K1 y2 Rb (Or.inl (by omega))
  have O2 := x3.kv y2 y5.1
  have W2 := W1.kv Rb y2 (by omega) (Or.inl (by omega))
  obtain ⟨h3, X3⟩ := EC_8 (P := True) (g 2 (rA σ 1035 (rF σ 0 42))) (fun _ => y1) (fun _ => y3) (fun _ => by omega)
  obtain ⟨z1, z2, z3⟩ := X3 trivial
  have K3 := K2.kc z3 (Or.inr (by omega))
  have O3 := O2.kc z3 (by omega)
  have W3 := W2.kc z3 (Or.inr (by omega))
  obtain ⟨h4, X4⟩ := EH_1_5 (P := True) (rF σ 0 42) hk (fun _ => z1) (fun _ => O3) (fun _ => z2) (fun _ q => q) (fun _ => ⟨by omega, by omega, by omega, by omega, by omega⟩)
  obtain ⟨u1, u2, u3, u4, u5, u6, u7⟩ := X4 trivial
  have z9 := z2.2.2.2.2.2.2.2.2
  have T2 := q2.cg (b' := rA t2 1034) (fun j _ j2 => ((Rb.2.2.2.2.1 j (by omega)).1).trans (R.2.2.2.2.1 j j2).1)
  have b4 : h4 4 br = h3 4 br := u4.2.1 4 (by decide) (by decide) (by decide)
  refine ⟨h4, 5 :: S, rA σ 1035 (rF σ 0 42) + 1, g 2 (rA σ 1035 (rF σ 0 42)), ⟨(BK.st hk (by decide) K3 (Or.inr (by omega))).ks u4 (Or.inr (by omega)) (Or.inr (by omega)), u1, ?_, ?_, v3, w2, w3⟩, u2, u3, by omega, ?_, by rw [b4]; exact z9, by omega, by omega, q3, Or.inl rfl⟩
  · show WD (sT t2 k 1 it br) k h4 (rF t2 0 42) (rF t2 0 38) _ n2 _ hi
    rw [e42, e38b, e38]; exact (W3.st hk).ks u4 (Or.inr (by omega)) (Or.inr (by omega))
  · show WS (rA (sT t2 k 1 it br) 1034) (rF t2 0 42) (rF t2 0 38) _ _
    rw [show rA (sT t2 k 1 it br) 1034 = rA t2 1034 from funext (fun j => rA_sT34 hk), e42, e38b, e38]; exact T2
  · show h4 5 br ≤ rF t2 0 42
    rw [u7, e42]; omega
theorem EL.tx {σ s t : rS} {k : Nat} {g h : Nat → Int → Int} {S S' : List Int} {n1 n2 lo hi it br n1' x' r : Int} (hk : rgk k) (I : MIX σ s k g S n1 n2 lo hi it br h S' n1' x') (E : BQb1 s t k h S' n1' n2 x' hi r) (h0 : 0 < rF s k 7) (hm : rF s 0 42 ≤ rF t 0 42) : (∃ h2 n1'' x'', MIX σ (sT t k 2 br r) k g S n1 n2 lo hi it br h2 S' n1'' x'') ∧ rF t 0 42 < rF t 0 38 ∧ (rA t 1034 (rF t 0 42) = 22 ∨ rA t 1034 (rF t 0 42) = 23 ∨ rA t 1034 (rF t 0 42) = 24) := by
  have hl := I.pre.2.1
  obtain ⟨⟨K, G, W, T, e1, e2, e3⟩, O, L, b0, b5, b4, i1, i2, l20, hS⟩ := I
  obtain ⟨h2, n1'', x'', ⟨K2, G2, W2, T2, f1, f2, f3⟩, V, hc⟩ := E
  have y1 := W2.2.1; have y2 := W2.2.2.2.2.1; have y3 := W2.2.2.2.2.2.1
  have k1 := K.1
  have k3 := K2.2.2.1
  have KK := K.trans K2 (by omega)
  have O2 := O.bk K2 (Or.inr (by omega))
  have L2 := L.bk rfl K2 (Or.inr (by omega))
  have hbN : br < rF s k 7 := by rcases L with q | q; exact absurd q.1 b0; exact q.2.1
  have e5 := K2.2.2.2.2.2.1 5 br hbN (Or.inr (by omega))
  have e4 := K2.2.2.2.2.2.1 4 br hbN (Or.inr (by omega))
  have v0 := V.1
  obtain ⟨h3, x1, x2, x3, x4, x5⟩ := EB hk G2 O2 L2 V b0 (Int.le_refl _) (Int.le_refl _) (by rw [e4, b4, hl]; omega)
  have hcl : rF t 0 42 < rF t 0 38 ∧ (rA t 1034 (rF t 0 42) = 22 ∨ rA t 1034 (rF t 0 42) = 23 ∨ rA t 1034 (rF t 0 42) = 24) := by
    rcases hc with q | ⟨q, c⟩
    · have := T2.fin q
      rcases hS with w | w <;> rw [w] at this <;> cases this
    · refine ⟨q, ?_⟩
      rcases c with c | c | c | c
      · exact Or.inl c
      · exact Or.inr (Or.inl c)
      · exact Or.inr (Or.inr c)
      · exfalso
        obtain ⟨S2, q1, q2⟩ := T2.hd q
        rw [c] at q1
        have := stp_26 q1
        rcases hS with w | w <;> rw [w] at this <;> cases this
  refine ⟨⟨h3, n1'', x'', ⟨(BK.st hk (by decide) KK (Or.inr i2)).kb x4 (by omega) (by omega), x1, (W2.st hk).kb x4 (Or.inr (by omega)) (Or.inr (by omega)), ?_, by omega, e2, e3⟩, x2, x3, b0, ?_, ?_, i1, i2, l20, hS⟩, hcl⟩
  · rw [show rA (sT t k 2 br r) 1034 = rA t 1034 from funext (fun j => rA_sT34 hk)]; exact T2
  · show h3 5 br ≤ rF t 0 42
    rw [x4.1 5 br x4.2.2.2 (Or.inr (by decide)), e5]; omega
  · rw [x4.1 4 br x4.2.2.2 (Or.inr (by decide)), e4]; exact b4
theorem EL.br {σ s t : rS} {k : Nat} {B : GBt} {it br b2 c : Int} (hk : rgk k) (I : ELI σ s k B it br) (hq : rA s 1034 (rF s 0 42) ≠ 24) (hc : rA s 1034 (rF s 0 42) = 23 ∧ c = 0 ∨ rA s 1034 (rF s 0 42) ≠ 23 ∧ c = rA s 1035 (rF s 0 42)) (D : ND s t k b2 8 c 0) (e42 : rF t 0 42 = rF s 0 42) (h0 : 0 < rF s k 7) (hw : rF s 0 38 ≤ 9000 ∧ 0 ≤ rF s 0 42) (hσ : rF σ k 7 ≤ rF s k 7) : MID σ (sT (sF t 0 42 (rF s 0 42 + 1)) k 5 br b2) k B it b2 := by
  obtain ⟨⟨h, S', n1', x', ⟨K, G, W, T, e1, e2, e3⟩, O, L, b0, b5, b4, i1, i2, l20, hS⟩, hb, hcl⟩ := I
  obtain ⟨g, S, n1, n2, lo, hi⟩ := B
  simp only at K W T e1 e2 e3 O L b4 l20 hS
  show ∃ h S' n1' x', MIX σ (sT (sF t 0 42 (rF s 0 42 + 1)) k 5 br b2) k g S n1 n2 lo hi it b2 h S' n1' x'
  obtain ⟨R, hr, hN, t0, t1, t2, t5, hn, e38, c38⟩ := D
  have w0 := W.1; have w1 := W.2.1; have w2 := W.2.2.1; have w3 := W.2.2.2.1; have w4 := W.2.2.2.2.1; have w5 := W.2.2.2.2.2.1
  have k1 := K.1; have k2 := K.2.1; have k3 := K.2.2.1; have k4 := K.2.2.2.1
  have hbN : br < rF s k 7 := by rcases L with q | q; exact absurd q.1 b0; exact q.2.1
  obtain ⟨S2, q1, q2⟩ := T.hd hb
  have hitN := O.2.1
  -- the new BRANCH, closed; what is ahead of it
  have Y : ∃ h2 n2' x2, n1' ≤ n2' ∧ n2' ≤ n2 ∧ x' ≤ x2 ∧ x2 ≤ 9000 ∧ BK σ t k g h2 n1 n2' ∧ GS t k h2 ∧ OP t k h2 it 5 S.length lo x' x' 0 ∧ LI t k h2 it 1 5 br ∧ h2 5 br = h 5 br ∧ NR t k h2 13 b2 b2 x' x2 ((S.length : Int) + 1) ∧ WD t k h2 (rF s 0 42 + 1) (rF s 0 38) n2' n2 x2 hi ∧ (S2 = 5 :: S ∨ S2 = 23 :: S) := by
    rcases hc with ⟨c1, c2⟩ | ⟨c1, c2⟩
    · rw [c1] at q1
      obtain ⟨tt, q3, q4⟩ := stp_23 q1
      have hS2 : S2 = 23 :: S := by
        rcases hS with w | w
        · rw [w] at q3; cases q3; exact q4
        · rw [w] at q3; cases q3
      subst c2
      obtain ⟨h2, X⟩ := EN_8 (P := True) x' ((S.length : Int) + 1) hk (fun _ => G) (fun _ => R) hr hN t0 t1 t2 t5 (fun _ => ⟨h0, by omega, by omega, hn, ⟨rfl, rfl⟩, trivial⟩)
      obtain ⟨x1, x2, x3, x4⟩ := X trivial
      obtain ⟨h3, X3⟩ := EC_8 (P := True) x' (fun _ => x1) (fun _ => x3) (fun _ => by omega)
      obtain ⟨z1, z2, z3⟩ := X3 trivial
      have O2 := (O.gk0 x2).kc z3 (by omega)
      have L2 := (LI.gk0 hk L O R x2).kc z3
      refine ⟨h3, n1', x', Int.le_refl _, w1, Int.le_refl _, by omega, (BK.new hk K x2 R).kc z3 (Or.inr (by omega)), z1, O2, L2, ?_, z2, (W.h0.gk R x2 (Int.le_refl _) (Or.inl rfl)).kc z3 (Or.inr (by omega)), Or.inr hS2⟩
      rw [z3.2 5 br (Or.inr (by decide))]; exact x2.2.1 5 br hbN (Or.inr (Or.inr rfl))
    · have c3 : rA s 1034 (rF s 0 42) = 22 := by omega
      rw [c3] at q1
      obtain ⟨tt, q3, q4⟩ := stp_22 q1
      have hS2 : S2 = 5 :: S := by
        rcases hS with w | w
        · rw [q4, w]
        · rw [w] at q3; cases q3
      subst c2
      obtain ⟨C, W', v1, v2, v3⟩ := W.h5 hb c3 (Or.inr rfl)
      have c8 := C.2.2.2.2.2.2.2.1
      obtain ⟨h2, X⟩ := EV_8 (P := True) x' ((S.length : Int) + 1) hk (fun _ => G) (fun _ => C) (fun _ q => q) (fun _ => R) hr hN t0 t1 t2 t5 (fun _ => ⟨h0, by omega, by omega, hn, rfl, by omega, by have := (G.1 _ C.2.1 C.2.2.1).1.2.2.2.2.2.1; have := C.2.2.2.2.2.2.2.2; omega⟩)
      obtain ⟨x1, x2, x3, x4, x5, x6⟩ := X trivial
      obtain ⟨h3, X3⟩ := EC_8 (P := True) (g := h2) (h 2 (rA s 1035 (rF s 0 42))) (fun _ => x1) (fun _ => x3) (fun _ => by omega)
      obtain ⟨z1, z2, z3⟩ := X3 trivial
      have hv : it ≠ rA s 1035 (rF s 0 42) := by omega
      have O2 := (O.kv x2 x5.1).kc z3 (by omega)
      have L2 := (LI.kv hk L O R x2 ⟨x5.2, x5.1⟩).kc z3
      refine ⟨h3, rA s 1035 (rF s 0 42) + 1, h 2 (rA s 1035 (rF s 0 42)), by omega, by omega, v3, by omega, ((BK.kv hk (K.adv (show n1' ≤ rA s 1035 (rF s 0 42) + 1 by omega) (by omega)) x2 R (Or.inl (by omega)))).kc z3 (Or.inr (by omega)), z1, O2, L2, ?_, z2, (W'.kv R x2 (Int.le_refl _) (Or.inl (by omega))).kc z3 (Or.inr (by omega)), Or.inl hS2⟩
      rw [z3.2 5 br (Or.inr (by decide))]; exact x2.2.2.1 5 br hbN (by omega)
  obtain ⟨h2, n2', x2, y1, y2, y3, y4, K2, G2, O2, L2, y5, V, W2, hS2⟩ := Y
  have G2' : GS (sF t 0 42 (rF s 0 42 + 1)) k h2 := by rw [GS_F42]; exact G2
  have O2' : OP (sF t 0 42 (rF s 0 42 + 1)) k h2 it 5 S.length lo x' x' 0 := by rw [OP_F42]; exact O2
  have L2' : LI (sF t 0 42 (rF s 0 42 + 1)) k h2 it 1 5 br := by rw [LI_F42]; exact L2
  have V' : NR (sF t 0 42 (rF s 0 42 + 1)) k h2 13 b2 b2 x' x2 ((S.length : Int) + 1) := by rw [NR_F42]; exact V
  have K2' : BK σ (sF t 0 42 (rF s 0 42 + 1)) k g h2 n1 n2' := by rw [BK_F42]; exact K2
  have W2' : WD (sF t 0 42 (rF s 0 42 + 1)) k h2 (rF s 0 42 + 1) (rF s 0 38) n2' n2 x2 hi := by rw [WD_F42]; exact W2
  obtain ⟨h4, X4⟩ := EA_1_5 (P := True) (rF s 0 42 + 1) hk (fun _ => G2') (fun _ => O2') (fun _ => L2') (fun _ => V') (fun _ q => q) (fun _ => ⟨Int.le_refl _, Int.le_refl _, by omega, b0, by omega, by omega⟩)
  obtain ⟨u1, u2, u3, u4, u5, u6, u7, u8, u9⟩ := X4 trivial
  have v9 := V.2.2.2.2.2.2.2.2
  have T2 := q2.cg (b' := rA t 1034) (fun j _ j2 => (R.2.2.2.2.1 j j2).1)
  have b4' : h4 4 b2 = h2 4 b2 := u4.2.1 4 (by decide) (by decide) (by decide)
  refine ⟨h4, S2, n2', x2, ⟨(BK.st hk (by decide) K2' (Or.inr i2)).ks u4 (Or.inr (by omega)) (Or.inr i1), u1, ?_, ?_, by omega, e2, e3⟩, u2, u3, by omega, ?_, by rw [b4']; exact v9, i1, by omega, l20, hS2⟩
  · show WD (sT (sF t 0 42 (rF s 0 42 + 1)) k 5 br b2) k h4 (rF (sF t 0 42 (rF s 0 42 + 1)) 0 42) (rF (sF t 0 42 (rF s 0 42 + 1)) 0 38) _ _ _ _
    rw [f42, f42n (by decide), e38]; exact (W2'.st hk).ks u4 (Or.inr (by omega)) (Or.inr (by omega))
  · show WS (rA (sT (sF t 0 42 (rF s 0 42 + 1)) k 5 br b2) 1034) (rF (sF t 0 42 (rF s 0 42 + 1)) 0 42) (rF (sF t 0 42 (rF s 0 42 + 1)) 0 38) _ _
    rw [show rA (sT (sF t 0 42 (rF s 0 42 + 1)) k 5 br b2) 1034 = rA t 1034 from funext (fun j => rA_sT34 hk), f42, f42n (by decide), e38]; exact T2
  · show h4 5 b2 ≤ rF (sF t 0 42 (rF s 0 42 + 1)) 0 42
    rw [u7, f42]; exact Int.le_refl _
theorem EL.out {σ s : rS} {k : Nat} {B : GBt} {it br : Int} (I : ELI σ s k B it br) (hq : rA s 1034 (rF s 0 42) = 24) (hσ : 0 < rF σ k 7) : BQe σ (sF s 0 42 (rF s 0 42 + 1)) k B it := by
  obtain ⟨⟨h, S', n1', x', ⟨K, G, W, T, e1, e2, e3⟩, O, L, b0, b5, b4, i1, i2, l20, hS⟩, hb, hcl⟩ := I
  obtain ⟨g, S, n1, n2, lo, hi⟩ := B
  simp only at K W T e1 e2 e3 O L b4 l20 hS
  show BQe1 σ (sF s 0 42 (rF s 0 42 + 1)) k g S n1 n2 lo hi it
  obtain ⟨S2, q1, q2⟩ := T.hd hb
  rw [hq] at q1
  obtain ⟨x, q3, q4⟩ := stp_24 q1
  have hS2 : S2 = S := by rcases hS with w | w <;> rw [w] at q3 <;> cases q3 <;> rfl
  subst hS2
  have w1 := W.2.1; have w2 := W.2.2.2.2.1; have w3 := W.2.2.2.2.2.1; have k3 := K.2.2.1
  obtain ⟨g3, X⟩ := EC_5 (P := True) x' (fun _ => G) (fun _ => O) (fun _ => by omega)
  obtain ⟨x1, x2, x3⟩ := X trivial
  refine ⟨g3, n1', x', S2.length, ⟨by rw [BK_F42]; exact K.kc x3 (Or.inr i1), by rw [GS_F42]; exact x1, ?_, ?_, e1, e2, e3⟩, ?_, Int.le_refl _, Or.inr i1⟩
  · rw [WD_F42, f42, f42n (by decide)]; exact W.h0.kc x3 (Or.inr (by omega))
  · rw [f42, f42n (by decide)]; exact q2
  · rw [NR_F42]; exact x2.cst rfl (Int.le_refl _) (Int.le_refl _) (by omega) (by omega)

