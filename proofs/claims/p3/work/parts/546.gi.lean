/-! GHOSTS of a group: g 0 sort, 1 begin, 2 end (bytes of the text; 100000: not over yet), 3 the parent, 4 depth, 5 place in its row, 6 how many in its own row, 7 where the POINTs end, 8 field of the parent -/
def so : Nat → Int → Prop
  | 1, q => q = 41
  | 2, q => 30 ≤ q ∧ q ≤ 39
  | 3, q => 42 ≤ q ∧ q ≤ 43
  | 4, q => q = 44
  | 5, q => 45 ≤ q ∧ q ≤ 47
  | 6, q => 50 ≤ q ∧ q ≤ 51
  | 7, q => q = 60
  | 8, q => q = 53
  | 9, q => q = 52
  | 10, q => q = 33
  | 11, q => q = 9
  | 12, q => 1 ≤ q ∧ q ≤ 7
  | 13, q => q = 8
  | 14, q => 55 ≤ q ∧ q ≤ 59
  | 15, q => 56 ≤ q ∧ q ≤ 59
  | 16, q => 57 ≤ q ∧ q ≤ 59
  | 17, q => 30 ≤ q ∧ q ≤ 40
  | 18, q => q = 54
  | 19, q => 30 ≤ q ∧ q ≤ 34 ∨ q = 56
  | 21, q => q = 40
  | 22, q => q = 6
  | 23, q => q = 36 ∨ q = 37 ∨ q = 45 ∨ q = 46
  | _, _ => False
theorem so_1 {q : Int} : so 1 q = (q = 41) := rfl
theorem so_2 {q : Int} : so 2 q = (30 ≤ q ∧ q ≤ 39) := rfl
theorem so_3 {q : Int} : so 3 q = (42 ≤ q ∧ q ≤ 43) := rfl
theorem so_4 {q : Int} : so 4 q = (q = 44) := rfl
theorem so_5 {q : Int} : so 5 q = (45 ≤ q ∧ q ≤ 47) := rfl
theorem so_6 {q : Int} : so 6 q = (50 ≤ q ∧ q ≤ 51) := rfl
theorem so_7 {q : Int} : so 7 q = (q = 60) := rfl
theorem so_8 {q : Int} : so 8 q = (q = 53) := rfl
theorem so_9 {q : Int} : so 9 q = (q = 52) := rfl
theorem so_10 {q : Int} : so 10 q = (q = 33) := rfl
theorem so_11 {q : Int} : so 11 q = (q = 9) := rfl
theorem so_12 {q : Int} : so 12 q = (1 ≤ q ∧ q ≤ 7) := rfl
theorem so_13 {q : Int} : so 13 q = (q = 8) := rfl
theorem so_14 {q : Int} : so 14 q = (55 ≤ q ∧ q ≤ 59) := rfl
theorem so_15 {q : Int} : so 15 q = (56 ≤ q ∧ q ≤ 59) := rfl
theorem so_16 {q : Int} : so 16 q = (57 ≤ q ∧ q ≤ 59) := rfl
theorem so_17 {q : Int} : so 17 q = (30 ≤ q ∧ q ≤ 40) := rfl
theorem so_18 {q : Int} : so 18 q = (q = 54) := rfl
theorem so_19 {q : Int} : so 19 q = (30 ≤ q ∧ q ≤ 34 ∨ q = 56) := rfl
theorem so_21 {q : Int} : so 21 q = (q = 40) := rfl
theorem so_22 {q : Int} : so 22 q = (q = 6) := rfl
theorem so_23 {q : Int} : so 23 q = (q = 36 ∨ q = 37 ∨ q = 45 ∨ q = 46) := rfl
def tb : Nat → Nat → Nat
  | 1, 41 => 17
  | 2, 41 => 3
  | 3, 41 => 4
  | 1, 44 => 5
  | 2, 36 => 6
  | 2, 45 => 6
  | 1, 37 => 1
  | 2, 37 => 6
  | 1, 46 => 1
  | 2, 46 => 6
  | 2, 38 => 1
  | 1, 39 => 1
  | 1, 43 => 1
  | 1, 50 => 1
  | 1, 51 => 1
  | 1, 60 => 1
  | 1, 58 => 1
  | 1, 40 => 1
  | 2, 40 => 10
  | 1, 47 => 10
  | 1, 34 => 7
  | 1, 33 => 11
  | 2, 33 => 9
  | 2, 53 => 1
  | 1, 4 => 1
  | 2, 4 => 8
  | 1, 5 => 13
  | 1, 8 => 14
  | 2, 8 => 11
  | 1, 9 => 12
  | 2, 6 => 11
  | 1, 55 => 15
  | 1, 56 => 16
  | 1, 57 => 16
  | 1, 59 => 14
  | _, _ => 0
def ds : Nat → Nat → Int
  | 1, 37 => 1
  | 1, 46 => 1
  | 1, 39 => 1
  | 1, 43 => 1
  | 1, 50 => 1
  | 1, 51 => 1
  | 1, 60 => 1
  | 1, 57 => 1
  | 1, 59 => 1
  | 1, 40 => 1
  | 2, 38 => 1
  | 2, 53 => 1
  | 2, 40 => -100
  | 1, 47 => -100
  | 1, 33 => -100
  | 2, 33 => -100
  | 1, 8 => -100
  | 2, 6 => -100
  | 1, 4 => -100
  | 2, 4 => -100
  | 1, 58 => -100
  | 1, 5 => 1
  | _, _ => 0
def cf : Nat → Nat
  | 36 => 2
  | 37 => 2
  | 45 => 2
  | 46 => 2
  | 40 => 1
  | 33 => 2
  | 44 => 1
  | 34 => 1
  | _ => 0
def cn (f K : Nat) : Bool := (cf K == f) && (f != 0)
def od : Nat → Bool
  | 41 => true
  | 37 => true
  | 46 => true
  | 40 => true
  | 4 => true
  | 8 => true
  | _ => false
theorem tb_ok {f K : Nat} (h : tb f K ≠ 0) : K ≠ 30 ∧ K ≠ 42 ∧ K ≠ 7 ∧ (K = 54 → f = 3) ∧ (K = 52 → f = 2) ∧ (K = 33 → f ≠ 3) ∧ (K = 6 → f = 2) ∧ 1 ≤ f ∧ f ≤ 3 ∧ (K = 44 → f = 1) ∧ (K = 4 → f ≠ 3) := by
  unfold tb at h
  split at h <;> first | omega | exact absurd rfl h
theorem cn_uq {f f' K : Nat} (h : cn f K = true) (h' : cn f' K = true) : f' = f := by
  simp only [cn, Bool.and_eq_true, beq_iff_eq] at h h'
  omega
theorem so_ge {S : Nat} {q : Int} (h : so S q) (h1 : S ≠ 11) (h2 : S ≠ 12) (h3 : S ≠ 13) (h4 : S ≠ 22) : 10 ≤ q := by
  unfold so at h
  split at h <;> first | omega | exact h.elim
theorem tb_22 {f K : Nat} : tb f K ≠ 22 := by
  unfold tb
  split <;> decide
def gS (t : Nat → Int → Int) (nm : Int) (g : Nat → Int → Int) (m : Int) : Prop :=
  (g 0 m = t 0 m ∨ g 0 m = 60 ∧ t 0 m = 59) ∧ 0 ≤ g 1 m ∧ g 1 m ≤ 9000 ∧ g 1 m ≤ g 2 m ∧ (g 2 m ≤ 9000 ∨ g 2 m = 100000) ∧ -1 ≤ g 4 m ∧ g 4 m ≤ 21 ∧ 0 ≤ g 5 m ∧ g 5 m ≤ 9000 ∧ 0 ≤ g 6 m ∧ (g 7 m = 100000 ∨ g 7 m ≤ g 2 m ∧ g 7 m ≤ 9000) ∧ (10 ≤ g 0 m → g 5 m ≤ g 1 m) ∧
  ((g 0 m = 30 ∨ g 0 m = 54) → 0 ≤ t 1 m ∧ 0 ≤ t 2 m ∧ t 2 m ≤ 4000 ∧ t 1 m + t 2 m ≤ 60000) ∧ ((g 0 m = 42 ∨ g 0 m = 52) → 0 ≤ t 1 m ∧ t 1 m < nm) ∧ (g 0 m = 33 → 0 ≤ t 3 m ∧ (g 2 m ≤ 9000 → t 3 m = g 6 m ∧ t 3 m ≤ 12)) ∧ ((g 0 m = 6 ∨ g 0 m = 7) → 0 ≤ t 3 m ∧ t 3 m < 320) ∧ ((g 0 m = 4 ∨ g 0 m = 6 ∨ g 0 m = 7) → rind (t 4 m))
def gP (f K : Nat) (g : Nat → Int → Int) (p m : Int) : Prop := tb f K ≠ 0 ∧ so (tb f K) (g 0 m) ∧ g 4 p + ds f K ≤ g 4 m ∧ g 1 p ≤ g 1 m ∧ g 2 m ≤ g 2 p ∧ (cn f K = true → g 5 m < g 6 p) ∧ (f = 2 → K = 41 → g 2 m ≤ g 7 p) ∧ (f = 3 → K = 41 → g 7 p ≤ g 1 m)
def gW (N : Int) (g : Nat → Int → Int) (m : Int) : Prop := g 3 m < 0 → -(g 3 m) < N ∧ g 3 (-(g 3 m)) = g 3 m
def gU (N : Int) (g : Nat → Int → Int) (m : Int) : Prop := (g 3 m ≤ 0 ∧ gW N g m) ∨ (0 < g 3 m ∧ g 3 m < N ∧ ∃ f K : Nat, g 8 m = (f : Int) ∧ g 0 (g 3 m) = (K : Int) ∧ gP f K g (g 3 m) m)
def gC (N : Int) (t g : Nat → Int → Int) (m : Int) : Prop := ∀ f K : Nat, tb f K ≠ 0 → g 0 m = (K : Int) → t f m = 0 ∨ (f = 2 ∧ K = 52 ∧ t f m = -1) ∨ (0 < t f m ∧ t f m < N ∧ g 3 (t f m) = m ∧ g 8 (t f m) = (f : Int) ∧ (10 ≤ g 0 (t f m) → g 5 (t f m) = 0))
def gO (t g : Nat → Int → Int) (m : Int) : Prop := ∀ K : Nat, g 0 m = (K : Int) → od K = true → (t 1 m ≠ 0 → t 2 m ≠ 0 → g 2 (t 1 m) ≤ g 1 (t 2 m)) ∧ (K = 41 → t 1 m ≠ 0 → t 3 m ≠ 0 → g 2 (t 1 m) ≤ g 1 (t 3 m))
def gX (N : Int) (t g : Nat → Int → Int) (m : Int) : Prop := t 5 m = 0 ∨ (0 < t 5 m ∧ t 5 m < N ∧ g 3 m ≠ 0 ∧ g 3 (t 5 m) = g 3 m ∧ g 8 (t 5 m) = g 8 m ∧ g 2 m ≤ g 1 (t 5 m) ∧ (10 ≤ g 0 m → g 2 m < g 1 (t 5 m) ∧ g 5 (t 5 m) = g 5 m + 1 ∧ m < t 5 m) ∧ g 5 m < g 5 (t 5 m))
def gN (t g : Nat → Int → Int) (m : Int) : Prop := 0 < g 3 m → t 5 m = 0 → ∀ f K : Nat, g 8 m = (f : Int) → g 0 (g 3 m) = (K : Int) → cn f K = true → g 5 m + 1 = g 6 (g 3 m)
theorem gS.b0 {t g : Nat → Int → Int} {nm m : Int} (h : gS t nm g m) : 0 ≤ g 1 m := h.2.1
theorem gS.b1 {t g : Nat → Int → Int} {nm m : Int} (h : gS t nm g m) : g 1 m ≤ 9000 := h.2.2.1
theorem gS.be {t g : Nat → Int → Int} {nm m : Int} (h : gS t nm g m) : g 1 m ≤ g 2 m := h.2.2.2.1
theorem gS.i0 {t g : Nat → Int → Int} {nm m : Int} (h : gS t nm g m) : 0 ≤ g 5 m := h.2.2.2.2.2.2.2.1
theorem gS.c0 {t g : Nat → Int → Int} {nm m : Int} (h : gS t nm g m) : 0 ≤ g 6 m := h.2.2.2.2.2.2.2.2.2.1
theorem gS.p7 {t g : Nat → Int → Int} {nm m : Int} (h : gS t nm g m) : g 7 m = 100000 ∨ g 7 m ≤ g 2 m ∧ g 7 m ≤ 9000 := h.2.2.2.2.2.2.2.2.2.2.1
theorem gS.ib {t g : Nat → Int → Int} {nm m : Int} (h : gS t nm g m) : 10 ≤ g 0 m → g 5 m ≤ g 1 m := h.2.2.2.2.2.2.2.2.2.2.2.1
theorem tb_13 {f K : Nat} (h : tb f K ≠ 0) : 1 ≤ f ∧ f ≤ 3 := ⟨(tb_ok h).2.2.2.2.2.2.2.1, (tb_ok h).2.2.2.2.2.2.2.2.1⟩
theorem tb_a {f K : Nat} (h : tb f K ≠ 0) (q : (K : Int) = 30 ∨ (K : Int) = 54) : f = 3 := by
  rcases q with q | q
  · exact absurd (show K = 30 by omega) (tb_ok h).1
  · exact (tb_ok h).2.2.2.1 (by omega)
theorem tb_b {f K : Nat} (h : tb f K ≠ 0) (q : (K : Int) = 42 ∨ (K : Int) = 52) : f = 2 := by
  rcases q with q | q
  · exact absurd (show K = 42 by omega) (tb_ok h).2.1
  · exact (tb_ok h).2.2.2.2.1 (by omega)
theorem tb_c {f K : Nat} (h : tb f K ≠ 0) (q : (K : Int) = 33) : f ≠ 3 := (tb_ok h).2.2.2.2.2.1 (by omega)
theorem tb_d {f K : Nat} (h : tb f K ≠ 0) (q : (K : Int) = 6 ∨ (K : Int) = 7) : f = 2 := by
  rcases q with q | q
  · exact (tb_ok h).2.2.2.2.2.2.1 (by omega)
  · exact absurd (show K = 7 by omega) (tb_ok h).2.2.1
theorem tb_e {f K : Nat} (h : tb f K ≠ 0) (q : K = 44) : f = 1 := (tb_ok h).2.2.2.2.2.2.2.2.2.1 q
def gG (t g : Nat → Int → Int) (m : Int) : Prop := g 0 m = 44 → (g 2 m ≤ 9000 → 0 < g 6 m) ∧ (0 < g 6 m → t 1 m ≠ 0)
def GI (N nm : Int) (t g : Nat → Int → Int) : Prop := ∀ m, 0 < m → m < N → gS t nm g m ∧ gU N g m ∧ gC N t g m ∧ gO t g m ∧ gX N t g m ∧ gN t g m ∧ gG t g m
/-- a node that is being made -/
def OPt (N : Int) (g : Nat → Int → Int) (it : Int) (K : Nat) (d lo x y e : Int) : Prop := 0 < it ∧ it < N ∧ g 0 it = (K : Int) ∧ g 3 it = 0 ∧ g 2 it = 100000 ∧ g 4 it = d ∧ lo ≤ g 1 it ∧ g 1 it ≤ y ∧ lo ≤ y ∧ (e = 0 → g 7 it = 100000) ∧ (g 7 it = 100000 ∨ g 7 it ≤ x) ∧ x ≤ 9000 ∧ y ≤ 9000 ∧ (∀ m, 0 < m → m < N → g 3 m = it → g 2 m ≤ x)
/-- a node that is over and hangs on none -/
def NRt (N : Int) (g : Nat → Int → Int) (S : Nat) (v n0 lo hi d : Int) : Prop := n0 ≤ v ∧ 0 < v ∧ v < N ∧ g 3 v = 0 ∧ so S (g 0 v) ∧ lo ≤ g 1 v ∧ g 2 v ≤ hi ∧ hi ≤ 9000 ∧ g 4 v = d
/-- the last one of a row -/
def LIt (N : Int) (t g : Nat → Int → Int) (it : Int) (f K : Nat) (l : Int) : Prop := (l = 0 ∧ (cn f K = true → g 6 it = 0)) ∨ (0 < l ∧ l < N ∧ g 3 l = it ∧ g 8 l = (f : Int) ∧ t 5 l = 0 ∧ (cn f K = true → ∀ m, 0 < m → m < N → g 3 m = it → g 8 m = (f : Int) → t 5 m = 0 → m = l))
/-- the ghosts of what is there stay (but how many c has), what is new hangs on what is new (or on c) -/
def GK (g g' : Nat → Int → Int) (N N' c : Int) : Prop := N ≤ N' ∧ (∀ j m, m < N → (m ≠ c ∨ j ≠ 6 ∨ c = 0) → g' j m = g j m) ∧ (∀ m, N ≤ m → m < N' → g' 3 m = 0 ∨ N ≤ g' 3 m ∨ g' 3 m ≤ -N ∨ g' 3 m = c ∧ c ≠ 0)
/-- v was hung on it -/
def KS (g g' : Nat → Int → Int) (it v : Int) (f K : Nat) : Prop := (∀ j m, m ≠ v → m ≠ it → g' j m = g j m) ∧ (∀ j, j ≠ 3 → j ≠ 5 → j ≠ 8 → g' j v = g j v) ∧ (∀ j, j ≠ 6 → j ≠ 7 → g' j it = g j it) ∧ g' 3 v = it ∧ (f ≠ 3 → g' 7 it = g 7 it) ∧ g' 6 it = (if cn f K = true then g 6 it + 1 else g 6 it) ∧ it ≠ v ∧ g' 8 v = (f : Int)
theorem GK.rf {g : Nat → Int → Int} {N c : Int} : GK g g N N c := ⟨Int.le_refl _, fun _ _ _ _ => rfl, fun m h1 h2 => absurd h1 (by omega)⟩
theorem GK.up {g : Nat → Int → Int} {N N' c : Int} (h : N' = N) : GK g g N N' c := by subst h; exact GK.rf
theorem GK.trans {g g' g2 : Nat → Int → Int} {N N' N2 c c' : Int} (h : GK g g' N N' c) (h' : GK g' g2 N' N2 c') (hc : c' = c ∨ c' = 0 ∨ N ≤ c') : GK g g2 N N2 c := by
  obtain ⟨a, b, e⟩ := h
  obtain ⟨a', b', e'⟩ := h'
  refine ⟨by omega, fun j m hm hj => (b' j m (by omega) (by omega)).trans (b j m hm hj), fun m h1 h2 => ?_⟩
  by_cases hm : m < N'
  · rw [b' 3 m hm (by omega)]; exact e m h1 hm
  · have := e' m (by omega) h2; omega
/-- what a new node's ghosts are -/
def gnw (g : Nat → Int → Int) (N : Int) (K : Nat) (b d : Int) : Nat → Int → Int := fun j i => if i = N then (if j = 0 then (K : Int) else if j = 1 then b else if j = 2 then 100000 else if j = 4 then d else if j = 7 then 100000 else 0) else g j i
theorem gnw_o {g : Nat → Int → Int} {N b d i : Int} {K j : Nat} (h : i ≠ N) : gnw g N K b d j i = g j i := if_neg h
theorem gnw_N {g : Nat → Int → Int} {N b d : Int} {K j : Nat} : gnw g N K b d j N = (if j = 0 then (K : Int) else if j = 1 then b else if j = 2 then 100000 else if j = 4 then d else if j = 7 then 100000 else 0) := if_pos rfl
theorem GI.mv {N N' nm nm' : Int} {t t' g : Nat → Int → Int} (G : GI N nm t g) (ht : ∀ f i, f < 6 → 0 < i → i < N → t' f i = t f i) (hN : N' = N) (hn : nm ≤ nm') : GI N' nm' t' g := by
  subst hN
  intro m h0 h1
  obtain ⟨s, u, c, o, x, n, z⟩ := G m h0 h1
  have e := fun f hf => ht f m hf h0 h1
  refine ⟨?_, u, ?_, ?_, ?_, ?_, ?_⟩
  · unfold gS at *
    rw [e 0 (by decide), e 1 (by decide), e 2 (by decide), e 3 (by decide), e 4 (by decide)]
    obtain ⟨s1, s2, s3, s4, s5, s6, s7, s8, s9, s10, s11, s12, s13, s14, s15⟩ := s
    exact ⟨s1, s2, s3, s4, s5, s6, s7, s8, s9, s10, s11, s12, s13, fun h => by have := s14 h; omega, s15⟩
  · intro f K hf hK
    have t1 := tb_13 hf
    rw [e f (by omega)]; exact c f K hf hK
  · unfold gO at *; rw [e 1 (by decide), e 2 (by decide), e 3 (by decide)]; exact o
  · unfold gX at *; rw [e 5 (by decide)]; exact x
  · unfold gN at *; rw [e 5 (by decide)]; exact n
  · unfold gG at *; rw [e 1 (by decide)]; exact z
theorem GI.new {N nm b d : Int} {K : Nat} {t t' g : Nat → Int → Int} (G : GI N nm t g) (hN : 0 < N) (ht : ∀ f i, f < 6 → 0 < i → i < N → t' f i = t f i) (h5 : t' 5 N = 0) (hc : ∀ f, tb f K ≠ 0 → t' f N = 0 ∨ f = 2 ∧ K = 52 ∧ t' f N = -1) (hs : gS t' nm (gnw g N K b d) N) : GI (N + 1) nm t' (gnw g N K b d) ∧ GK g (gnw g N K b d) N (N + 1) 0 ∧ OPt (N + 1) (gnw g N K b d) N K d b (-1) b 0 := by
  have eo : ∀ j i, i < N → gnw g N K b d j i = g j i := fun j i h => gnw_o (by omega)
  refine ⟨fun m h0 h1 => ?_, ⟨by omega, fun j m h _ => eo j m h, fun m h1 h2 => Or.inl ?_⟩, ?_⟩
  · by_cases hm : m = N
    · subst hm
      refine ⟨hs, Or.inl ⟨?_, fun h => ?_⟩, fun f K' hf hK => ?_, fun K' hK hO => ?_, Or.inl h5, fun h => ?_, fun _ => ⟨fun h => ?_, fun h => ?_⟩⟩
      · rw [gnw_N]; simp
      · rw [gnw_N] at h; simp at h
      · rw [gnw_N] at hK
        have e : K = K' := by simp at hK; omega
        subst e
        rcases hc f hf with h | h
        · exact Or.inl h
        · exact Or.inr (Or.inl h)
      · rw [gnw_N] at hK
        have e : K = K' := by simp at hK; omega
        subst e
        have h1' : tb 1 K ≠ 0 := by unfold od at hO; split at hO <;> first | decide | exact absurd hO (by decide)
        rcases hc 1 h1' with h | h
        · exact ⟨fun x => absurd h x, fun _ x => absurd h x⟩
        · exact absurd h.1 (by decide)
      · rw [gnw_N] at h; simp at h
      · rw [gnw_N] at h; simp at h
      · rw [gnw_N] at h; simp at h
    · have hmN : m < N := by omega
      obtain ⟨s, u, c, o, x, n, z⟩ := G m h0 hmN
      have e := fun f hf => ht f m hf h0 hmN
      have e1 := fun j => eo j m hmN
      refine ⟨?_, ?_, fun f K' hf hK => ?_, ?_, ?_, ?_, ?_⟩
      · unfold gS at *
        rw [e 0 (by decide), e 1 (by decide), e 2 (by decide), e 3 (by decide), e 4 (by decide)]
        simp only [e1]; exact s
      · unfold gU gP at *
        rcases u with u | ⟨uz, u1, f, K', u2, u3, u4⟩
        · left
          refine ⟨by rw [e1]; exact u.1, fun h => ?_⟩
          rw [e1] at h ⊢
          have w := u.2 h
          rw [eo 3 _ w.1]; exact ⟨by omega, w.2⟩
        · right
          have e2 := fun j => eo j (g 3 m) u1
          simp only [e1, e2]
          exact ⟨uz, by omega, f, K', u2, u3, u4⟩
      · have t1 := tb_13 hf
        rw [e1] at hK
        rw [e f (by omega)]
        rcases c f K' hf hK with h | h | ⟨h1', h2', h3'⟩
        · exact Or.inl h
        · exact Or.inr (Or.inl h)
        · right; right
          have e2 := fun j => eo j (t f m) h2'
          simp only [e2]
          exact ⟨h1', by omega, h3'⟩
      · intro K' hK hO
        rw [e1] at hK
        have o' := o K' hK hO
        have c1 := c 1 K'
        have c2 := c 2 K'
        have c3 := c 3 K'
        rw [e 1 (by decide), e 2 (by decide), e 3 (by decide)]
        have hb : ∀ f, f < 6 → t f m ≠ 0 → tb f K' ≠ 0 → t f m < N := by
          intro f hf hne htb
          rcases c f K' htb hK with h | h | h
          · exact absurd h hne
          · omega
          · exact h.2.1
        have b1 : tb 1 K' ≠ 0 ∧ tb 2 K' ≠ 0 ∧ (K' = 41 → tb 3 K' ≠ 0) := by unfold od at hO; split at hO <;> first | decide | exact absurd hO (by decide)
        refine ⟨fun a1 a2 => ?_, fun k41 a1 a2 => ?_⟩
        · rw [eo _ _ (hb 1 (by decide) a1 b1.1), eo _ _ (hb 2 (by decide) a2 b1.2.1)]; exact o'.1 a1 a2
        · rw [eo _ _ (hb 1 (by decide) a1 b1.1), eo _ _ (hb 3 (by decide) a2 (b1.2.2 k41))]; exact o'.2 k41 a1 a2
      · unfold gX at *
        rw [e 5 (by decide)]
        rcases x with x | x
        · exact Or.inl x
        · right
          have e2 := fun j => eo j (t 5 m) x.2.1
          simp only [e1, e2]
          exact ⟨x.1, by omega, x.2.2⟩
      · intro h3 h5' f K' hf hK hcn
        rw [e1] at h3 hf hK ⊢
        rw [e 5 (by decide)] at h5'
        have u1 : g 3 m < N := by rcases u with u | u; omega; exact u.2.1
        rw [eo _ _ u1] at hK
        rw [e1, eo _ _ u1]
        exact n h3 h5' f K' hf hK hcn
      · unfold gG at *
        rw [e 1 (by decide)]
        simp only [e1]; exact z
  · have : m = N := by omega
    subst this
    rw [gnw_N]; simp
  · unfold OPt
    simp only [gnw_N]
    refine ⟨hN, by omega, by simp, by simp, by simp, by simp, by simp, by simp, by omega, fun _ => by simp, Or.inl (by simp), by omega, ?_, ?_⟩
    · have h3 := gS.b1 hs; rw [gnw_N] at h3; simpa using h3
    · intro m h0 h1 h3
      by_cases hm : m = N
      · subst hm; rw [gnw_N] at h3; simp at h3; omega
      · rw [eo _ _ (by omega)] at h3
        have := (G m h0 (by omega)).2.1
        unfold gU at this
        rcases this with h | h
        · omega
        · have := h.2.1; omega
/-- what hanging v on it leaves -/
def gat (g : Nat → Int → Int) (it v f ix : Int) (b : Bool) (x : Int) : Nat → Int → Int := fun j i => if i = v then (if j = 3 then it else if j = 5 then ix else if j = 8 then f else g j i) else if i = it then (if j = 6 then (if b = true then g 6 i + 1 else g 6 i) else if j = 7 then (if f = 3 ∧ g 7 i = 100000 then x else g 7 i) else g j i) else g j i
theorem gat_a {g : Nat → Int → Int} {it v f ix x i : Int} {b : Bool} {j : Nat} (h : j ≠ 3 ∧ j ≠ 5 ∧ j ≠ 6 ∧ j ≠ 7 ∧ j ≠ 8) : gat g it v f ix b x j i = g j i := by
  obtain ⟨h3, h5, h6, h7, h8⟩ := h
  unfold gat
  simp only [h3, h5, h6, h7, h8, if_false, ite_self]
theorem gat_o {g : Nat → Int → Int} {it v f ix x i : Int} {b : Bool} {j : Nat} (hi : i ≠ v) (h : j ≠ 6 ∧ j ≠ 7) : gat g it v f ix b x j i = g j i := by
  obtain ⟨h6, h7⟩ := h
  unfold gat
  simp only [hi, h6, h7, if_false, ite_self]
theorem gat_n {g : Nat → Int → Int} {it v f ix x i : Int} {b : Bool} {j : Nat} (hi : i ≠ v) (h : i ≠ it) : gat g it v f ix b x j i = g j i := by
  unfold gat
  simp only [hi, h, if_false]
theorem gat_3 {g : Nat → Int → Int} {it v f ix x : Int} {b : Bool} : gat g it v f ix b x 3 v = it := by unfold gat; simp
theorem gat_5 {g : Nat → Int → Int} {it v f ix x : Int} {b : Bool} : gat g it v f ix b x 5 v = ix := by unfold gat; simp
theorem gat_8 {g : Nat → Int → Int} {it v f ix x : Int} {b : Bool} : gat g it v f ix b x 8 v = f := by unfold gat; simp
theorem gat_67 {g : Nat → Int → Int} {it v f ix x : Int} {b : Bool} {j : Nat} (h : j = 6 ∨ j = 7) : gat g it v f ix b x j v = g j v := by unfold gat; rcases h with rfl | rfl <;> simp
theorem gat_6 {g : Nat → Int → Int} {it v f ix x : Int} {b : Bool} (h : it ≠ v) : gat g it v f ix b x 6 it = if b = true then g 6 it + 1 else g 6 it := by unfold gat; simp [h]
theorem gat_7 {g : Nat → Int → Int} {it v f ix x : Int} {b : Bool} (h : it ≠ v) : gat g it v f ix b x 7 it = if f = 3 ∧ g 7 it = 100000 then x else g 7 it := by unfold gat; simp [h]
theorem GI.att {N nm d lo x y e n0 l h d' it v ix : Int} {K S f : Nat} {t g : Nat → Int → Int} (G : GI N nm t g) (O : OPt N g it K d lo x y e) (V : NRt N g S v n0 l h d') (hf : tb f K ≠ 0) (hs : ∀ q, so S q → so (tb f K) q) (hx : x ≤ l) (hy : y ≤ l) (hd : d + ds f K ≤ d') (hi0 : 0 ≤ ix ∧ ix ≤ 9000) (hiB : 10 ≤ g 0 v → ix ≤ g 1 v) (hc : cn f K = true → ix = g 6 it) (he : f = 2 → K = 41 → e = 0) : it ≠ v ∧ t 5 v = 0 ∧ ∀ m, 0 < m → m < N → gS t nm (gat g it v f ix (cn f K) x) m ∧ gU N (gat g it v f ix (cn f K) x) m ∧ gC N t (gat g it v f ix (cn f K) x) m ∧ gO t (gat g it v f ix (cn f K) x) m ∧ gX N t (gat g it v f ix (cn f K) x) m ∧ (m ≠ v → (cn f K = true → g 3 m = it → g 8 m = (f : Int) → t 5 m = 0 → False) → gN t (gat g it v f ix (cn f K) x) m) ∧ (m ≠ it → gG t (gat g it v f ix (cn f K) x) m) := by
  obtain ⟨o1, o2, o3, o4, o5, o6, o7, o8, o9, o10, o11, o12, o13, o14⟩ := O
  obtain ⟨v1, v2, v3, v4, v5, v6, v7, v8, v9⟩ := V
  have hne : it ≠ v := fun E => by subst E; omega
  obtain ⟨sv, uv, cv, ov, xv, nv, zv⟩ := G v v2 v3
  have h5 : t 5 v = 0 := by
    rcases xv with x1 | x1
    · exact x1
    · exact absurd v4 x1.2.2.1
  refine ⟨hne, h5, fun m h0 h1 => ?_⟩
  obtain ⟨s, u, c', o, x', n, z⟩ := G m h0 h1
  have a0 : ∀ i, gat g it v f ix (cn f K) x 0 i = g 0 i := fun i => gat_a (by decide)
  have a1 : ∀ i, gat g it v f ix (cn f K) x 1 i = g 1 i := fun i => gat_a (by decide)
  have a2 : ∀ i, gat g it v f ix (cn f K) x 2 i = g 2 i := fun i => gat_a (by decide)
  have a4 : ∀ i, gat g it v f ix (cn f K) x 4 i = g 4 i := fun i => gat_a (by decide)
  have a3 : ∀ i, i ≠ v → gat g it v f ix (cn f K) x 3 i = g 3 i := fun i hi => gat_o hi (by decide)
  have a5 : ∀ i, i ≠ v → gat g it v f ix (cn f K) x 5 i = g 5 i := fun i hi => gat_o hi (by decide)
  have a8 : ∀ i, i ≠ v → gat g it v f ix (cn f K) x 8 i = g 8 i := fun i hi => gat_o hi (by decide)
  have a6 : ∀ i, i ≠ it → gat g it v f ix (cn f K) x 6 i = g 6 i := fun i hi => by
    by_cases hv : i = v
    · subst hv; exact gat_67 (Or.inl rfl)
    · exact gat_n hv hi
  have a7 : ∀ i, i ≠ it → gat g it v f ix (cn f K) x 7 i = g 7 i := fun i hi => by
    by_cases hv : i = v
    · subst hv; exact gat_67 (Or.inr rfl)
    · exact gat_n hv hi
  have b6 : gat g it v f ix (cn f K) x 6 it = if cn f K = true then g 6 it + 1 else g 6 it := gat_6 hne
  have b7 : gat g it v f ix (cn f K) x 7 it = if (f : Int) = 3 ∧ g 7 it = 100000 then x else g 7 it := gat_7 hne
  have b6' : g 6 it ≤ gat g it v f ix (cn f K) x 6 it := by rw [b6]; split <;> omega
  have b7' : g 7 it = 100000 ∨ gat g it v f ix (cn f K) x 7 it = g 7 it := by
    rw [b7]; split
    · rename_i hh; exact Or.inl hh.2
    · exact Or.inr rfl
  have b7x : gat g it v f ix (cn f K) x 7 it = 100000 ∨ gat g it v f ix (cn f K) x 7 it ≤ x := by
    rw [b7]; split
    · right; omega
    · exact o11
  refine ⟨?_, ?_, ?_, ?_, ?_, ?_, fun hi => by unfold gG at *; rw [a0, a2, a6 m hi]; exact z⟩
  · unfold gS at *
    simp only [a0, a1, a2, a4]
    obtain ⟨s1, s2, s3, s4, s5, s6, s7, s8, s9, s10, s11, s12, s13, s14, s15, s16, s17⟩ := s
    refine ⟨s1, s2, s3, s4, s5, s6, s7, ?_, ?_, ?_, ?_, ?_, s13, s14, ?_, s16, s17⟩
    · by_cases hv : m = v
      · subst hv; rw [gat_5]; exact hi0.1
      · rw [a5 m hv]; exact s8
    · by_cases hv : m = v
      · subst hv; rw [gat_5]; exact hi0.2
      · rw [a5 m hv]; exact s9
    · by_cases hi : m = it
      · subst hi; omega
      · rw [a6 m hi]; exact s10
    · by_cases hi : m = it
      · subst hi; rcases b7x with q | q
        · exact Or.inl q
        · right; omega
      · rw [a7 m hi]; exact s11
    · intro h10
      by_cases hv : m = v
      · subst hv; rw [gat_5]; exact hiB h10
      · rw [a5 m hv]; exact s12 h10
    · intro h33
      refine ⟨(s15 h33).1, fun h9 => ?_⟩
      have hi : m ≠ it := fun E => by subst E; omega
      rw [a6 m hi]; exact (s15 h33).2 h9
  · by_cases hv : m = v
    · subst hv
      right
      rw [gat_3]
      refine ⟨o1, o2, f, K, gat_8, by rw [a0]; exact o3, ?_⟩
      unfold gP
      simp only [a0, a1, a2, a4]
      refine ⟨hf, hs _ v5, by omega, by omega, by omega, fun hcn => ?_, fun f2 K41 => ?_, fun f3 K41 => ?_⟩
      · rw [gat_5, b6, if_pos hcn, hc hcn]; omega
      · have e0 := o10 (he f2 K41)
        rw [b7, if_neg (by omega)]; omega
      · rcases b7x with q | q
        · rw [b7] at q
          split at q
          · omega
          · rename_i hh; exact absurd ⟨by omega, q⟩ hh
        · omega
    · rcases u with u | ⟨uz, u1, f', K', u2, u3, u4⟩
      · left
        refine ⟨by rw [a3 m hv]; exact u.1, fun h => ?_⟩
        rw [a3 m hv] at h ⊢
        have w := u.2 h
        have hw : -(g 3 m) ≠ v := fun E => by rw [E] at w; omega
        rw [a3 _ hw]; exact w
      · right
        rw [a3 m hv]
        refine ⟨uz, u1, f', K', by rw [a8 m hv]; exact u2, by rw [a0]; exact u3, ?_⟩
        unfold gP at *
        simp only [a0, a1, a2, a4]
        obtain ⟨p1, p2, p3, p4, p5, p6, p7, p8⟩ := u4
        refine ⟨p1, p2, p3, p4, p5, fun hcn => ?_, fun f2 K41 => ?_, fun f3 K41 => ?_⟩
        · rw [a5 m hv]
          by_cases hp : g 3 m = it
          · rw [hp] at p6 ⊢; have := p6 hcn; omega
          · rw [a6 _ hp]; exact p6 hcn
        · by_cases hp : g 3 m = it
          · have := o14 m h0 h1 hp
            rw [hp] at p7 ⊢
            have := p7 f2 K41
            rw [b7]; split <;> omega
          · rw [a7 _ hp]; exact p7 f2 K41
        · by_cases hp : g 3 m = it
          · rw [hp] at p8 ⊢
            have := p8 f3 K41
            have sm : g 1 m ≤ 9000 := s.2.2.1
            rw [b7]; split <;> omega
          · rw [a7 _ hp]; exact p8 f3 K41
  · intro f' K' hf' hK'
    rw [a0] at hK'
    rcases c' f' K' hf' hK' with q | q | ⟨q1, q2, q3, q4, q5⟩
    · exact Or.inl q
    · exact Or.inr (Or.inl q)
    · right; right
      have hv : t f' m ≠ v := fun E => by rw [E] at q3; omega
      refine ⟨q1, q2, by rw [a3 _ hv]; exact q3, by rw [a8 _ hv]; exact q4, ?_⟩
      rw [a0, a5 _ hv]; exact q5
  · unfold gO at *
    simp only [a0, a1, a2]; exact o
  · rcases x' with q | ⟨q1, q2, q3, q4, q5, q6, q7, q8⟩
    · exact Or.inl q
    · right
      have hm : m ≠ v := fun E => by subst E; exact q3 v4
      have hv : t 5 m ≠ v := fun E => by rw [E] at q4; omega
      rw [a3 _ hm, a3 _ hv, a8 _ hm, a8 _ hv, a0, a1, a2, a5 _ hm, a5 _ hv]
      exact ⟨q1, q2, q3, q4, q5, q6, q7, q8⟩
  · intro hv hno h3 h5' f' K' hf' hK' hcn
    rw [a3 _ hv] at h3 hK'
    rw [a8 _ hv] at hf'
    rw [a0] at hK'
    rw [a5 _ hv, a3 _ hv]
    by_cases hp : g 3 m = it
    · have hK2 := hK'
      rw [hp] at hK2
      have k1 : K = K' := by omega
      subst k1
      by_cases hcf : cn f K = true
      · have e1 := cn_uq hcf hcn
        subst e1
        exact absurd (hno hcn hp hf' h5') id
      · rw [hp, b6, if_neg hcf]
        have := n h3 h5' f' K hf' hK' hcn
        rw [hp] at this; exact this
    · rw [a6 _ hp]; exact n h3 h5' f' K' hf' hK' hcn

theorem udt_ap {t : Nat → Int → Int} {f f' : Nat} {i i' x : Int} : udt t f i x f' i' = if f' = f ∧ i' = i then x else t f' i' := rfl
/-- bundles behind hanging v on it -/
theorem att_b {N nm d lo x y e n0 l h d' it v ix : Int} {K S f : Nat} {t g : Nat → Int → Int} (G : GI N nm t g) (O : OPt N g it K d lo x y e) (V : NRt N g S v n0 l h d') (hx : x ≤ l) (hy : y ≤ l) (hne : it ≠ v) : OPt N (gat g it v f ix (cn f K) x) it K d lo h h (if f = 3 then 1 else e) ∧ KS g (gat g it v f ix (cn f K) x) it v f K := by
  obtain ⟨o1, o2, o3, o4, o5, o6, o7, o8, o9, o10, o11, o12, o13, o14⟩ := O
  obtain ⟨v1, v2, v3, v4, v5, v6, v7, v8, v9⟩ := V
  have sv := gS.be (G v v2 v3).1
  have b6 : gat g it v f ix (cn f K) x 6 it = if cn f K = true then g 6 it + 1 else g 6 it := gat_6 hne
  have b7 : gat g it v f ix (cn f K) x 7 it = if (f : Int) = 3 ∧ g 7 it = 100000 then x else g 7 it := gat_7 hne
  have a : ∀ j i, (j ≠ 3 ∧ j ≠ 5 ∧ j ≠ 6 ∧ j ≠ 7 ∧ j ≠ 8) → gat g it v f ix (cn f K) x j i = g j i := fun j i hj => gat_a hj
  refine ⟨⟨o1, o2, by rw [a _ _ (by decide)]; exact o3, by rw [gat_o hne (by decide)]; exact o4, by rw [a _ _ (by decide)]; exact o5, by rw [a _ _ (by decide)]; exact o6, by rw [a _ _ (by decide)]; exact o7, by rw [a _ _ (by decide)]; omega, by omega, fun he => ?_, ?_, by omega, by omega, fun m h0 h1 h3 => ?_⟩, ⟨fun j m h1 h2 => gat_n h1 h2, fun j h3 h5 h8 => ?_, fun j h6 h7 => gat_o hne ⟨h6, h7⟩, gat_3, fun hf3 => by rw [b7, if_neg (fun hh => hf3 (by omega))], b6, hne, gat_8⟩⟩
  · split at he
    · omega
    · rename_i hf3
      rw [b7, if_neg (fun hh => hf3 (by omega))]; exact o10 he
  · rw [b7]; split
    · right; omega
    · rcases o11 with q | q
      · exact Or.inl q
      · right; omega
  · rw [a _ _ (by decide)]
    by_cases hv : m = v
    · subst hv; exact v7
    · rw [gat_o hv (by decide)] at h3
      have := o14 m h0 h1 h3
      omega
  · by_cases h67 : j = 6 ∨ j = 7
    · exact gat_67 h67
    · exact gat_a (by omega)
set_option maxHeartbeats 4000000 in
theorem GI.headx {N nm d lo x y e n0 l h d' it v ix : Int} {K S f : Nat} {t g : Nat → Int → Int} (G : GI N nm t g) (O : OPt N g it K d lo x y e) (V : NRt N g S v n0 l h d') (hf : tb f K ≠ 0) (hs : ∀ q, so S q → so (tb f K) q) (hx : x ≤ l) (hy : y ≤ l) (hd : d + ds f K ≤ d') (L0 : LIt N t g it f K 0) (he : f = 2 → K = 41 → e = 0) (h1x : od K = true → f = 1 → x < 0) (hi0 : 0 ≤ ix ∧ ix ≤ 9000) (hi1 : tb f K ≠ 12 → tb f K ≠ 13 → ix = 0) : ∃ g', GI N nm (udt t f it v) g' ∧ OPt N g' it K d lo h h (if f = 3 then 1 else e) ∧ LIt N (udt t f it v) g' it f K v ∧ KS g g' it v f K ∧ g' 5 v = ix := by
  have ok13 := tb_13 hf
  have hc : cn f K = true → g 6 it = 0 := by
    rcases L0 with q | q
    · exact q.2
    · exact absurd q.1 (by decide)
  have hcn1 : cn f K = true → tb f K ≠ 12 ∧ tb f K ≠ 13 := by
    intro hcn
    have : cf K = f ∧ f ≠ 0 := by simpa [cn] using hcn
    obtain ⟨a1, a2⟩ := this
    unfold cf at a1
    split at a1 <;> first | (subst a1; decide) | omega
  obtain ⟨hne, h5, A⟩ := GI.att (ix := ix) G O V hf hs hx hy hd hi0 (fun h10 => by
    by_cases h12 : tb f K = 12 ∨ tb f K = 13
    · have v5 := hs _ V.2.2.2.2.1
      rcases h12 with e1 | e1 <;> rw [e1] at v5
      · rw [so_12] at v5; omega
      · rw [so_13] at v5; omega
    · have := hi1 (by omega) (by omega)
      have sv := gS.b0 (G v V.2.1 V.2.2.1).1
      omega) (fun hcn => by have := hcn1 hcn; rw [hc hcn]; exact hi1 this.1 this.2) he
  obtain ⟨B, KK⟩ := att_b (f := f) (ix := ix) G O V hx hy hne
  obtain ⟨o1, o2, o3, o4, o5, o6, o7, o8, o9, o10, o11, o12, o13, o14⟩ := O
  obtain ⟨v1, v2, v3, v4, v5, v6, v7, v8, v9⟩ := V
  have a : ∀ j i, (j ≠ 3 ∧ j ≠ 5 ∧ j ≠ 6 ∧ j ≠ 7 ∧ j ≠ 8) → gat g it v f ix (cn f K) x j i = g j i := fun j i hj => gat_a hj
  refine ⟨gat g it v f ix (cn f K) x, fun m h0 h1 => ?_, B, ?_, KK, gat_5⟩
  · obtain ⟨s, u, c', o, x', n, z⟩ := A m h0 h1
    have n' : gN t (gat g it v f ix (cn f K) x) m := by
      by_cases hv : m = v
      · subst hv
        intro h3 h5' f' K' hf' hK' hcn
        rw [gat_3] at hK' ⊢
        rw [gat_8] at hf'
        rw [a _ _ (by decide)] at hK'
        have e1 : f = f' := by omega
        have e2 : K = K' := by omega
        subst e1 e2
        have := hcn1 hcn
        rw [gat_5, gat_6 hne, if_pos hcn, hc hcn, hi1 this.1 this.2]
      · refine n hv (fun hcn h3 h8 h5' => ?_)
        have u0 := (G m h0 h1).2.1
        have s0 := gS.i0 (G m h0 h1).1
        rcases u0 with u0 | ⟨uz, u1, f', K', u2, u3, u4⟩
        · omega
        · rw [h3] at u3 u4
          have e1 : f = f' := by omega
          have e2 : K = K' := by omega
          subst e1 e2
          have := u4.2.2.2.2.2.1 hcn
          have := hc hcn
          omega
    by_cases hm : m = it
    · subst hm
      have hK0 : gat g m v f ix (cn f K) x 0 m = (K : Int) := by rw [a _ _ (by decide)]; exact o3
      have u0 : ∀ f', f' ≠ f → udt t f m v f' m = t f' m := fun f' hh => udt_ne (Or.inl hh)
      have hch : ∀ f', tb f' K ≠ 0 → t f' m ≠ 0 → K ≠ 52 → g 2 (t f' m) ≤ x ∧ 0 ≤ g 1 (t f' m) ∧ g 1 (t f' m) ≤ g 2 (t f' m) := by
        intro f' hf' hne' h52
        rcases (G m h0 h1).2.2.1 f' K hf' o3 with q | q | ⟨q1, q2, q3, _⟩
        · exact absurd q hne'
        · exact absurd q.2.1 h52
        · have := o14 _ q1 q2 q3
          have s1 := (G _ q1 q2).1
          exact ⟨this, gS.b0 s1, gS.be s1⟩
      refine ⟨?_, u, ?_, ?_, ?_, ?_, fun hq => ⟨fun h9 => ?_, fun _ => ?_⟩⟩
      · unfold gS at *
        rw [hK0] at s ⊢
        obtain ⟨s1, s2, s3, s4, s5, s6, s7, s8, s9, s10, s11, s12, s13, s14, s15, s16, s17⟩ := s
        have z0 : (0 : Nat) ≠ f := by clear s12 s13 s14 s15 s16 s17; omega
        have z4 : (4 : Nat) ≠ f := by clear s12 s13 s14 s15 s16 s17; omega
        rw [u0 0 z0, u0 4 z4]
        refine ⟨s1, s2, s3, s4, s5, s6, s7, s8, s9, s10, s11, s12, fun hq => ?_, fun hq => ?_, fun hq => ?_, fun hq => ?_, s17⟩
        · have e1 := tb_a hf hq
          rw [u0 1 (fun e => by subst e; exact absurd e1 (by decide)), u0 2 (fun e => by subst e; exact absurd e1 (by decide))]; exact s13 hq
        · have e1 := tb_b hf hq
          rw [u0 1 (fun e => by subst e; exact absurd e1 (by decide))]; exact s14 hq
        · have e1 := tb_c hf hq
          rw [u0 3 (fun e => e1 e.symm)]; exact s15 hq
        · have e1 := tb_d hf hq
          rw [u0 3 (fun e => by subst e; exact absurd e1 (by decide))]; exact s16 hq
      · intro f' K' hf' hK'
        have e1 : K = K' := by omega
        subst e1
        by_cases hff : f' = f
        · subst hff
          right; right
          rw [udt_eq]
          refine ⟨v2, v3, gat_3, gat_8, fun h10 => ?_⟩
          rw [a _ _ (by decide)] at h10
          rw [gat_5]
          have v5' := hs _ v5
          apply hi1
          · intro e1; rw [e1, so_12] at v5'; omega
          · intro e1; rw [e1, so_13] at v5'; omega
        · rw [u0 f' hff]; exact c' f' K hf' hK'
      · intro K' hK' hO
        have e1 : K = K' := by omega
        subst e1
        have b1 : tb 1 K ≠ 0 ∧ tb 2 K ≠ 0 ∧ (K = 41 → tb 3 K ≠ 0) ∧ K ≠ 52 := by unfold od at hO; split at hO <;> first | decide | exact absurd hO (by decide)
        have o' := o K hK' hO
        simp only [a 1 _ (by decide), a 2 _ (by decide)] at o' ⊢
        refine ⟨fun q1 q2 => ?_, fun k41 q1 q2 => ?_⟩
        · by_cases f1 : f = 1
          · subst f1
            rw [u0 2 (by decide)] at q2
            have := hch 2 b1.2.1 q2 b1.2.2.2
            have := h1x hO rfl
            omega
          · rw [u0 1 (by omega)] at q1 ⊢
            have := hch 1 b1.1 q1 b1.2.2.2
            by_cases f2 : f = 2
            · subst f2; rw [udt_eq]; omega
            · rw [u0 2 (by omega)] at q2 ⊢; exact o'.1 q1 q2
        · by_cases f1 : f = 1
          · subst f1
            rw [u0 3 (by decide)] at q2
            have := hch 3 (b1.2.2.1 k41) q2 b1.2.2.2
            have := h1x hO rfl
            omega
          · rw [u0 1 (by omega)] at q1 ⊢
            have := hch 1 b1.1 q1 b1.2.2.2
            by_cases f3 : f = 3
            · subst f3; rw [udt_eq]; omega
            · rw [u0 3 (by omega)] at q2 ⊢; exact o'.2 k41 q1 q2
      · unfold gX at *; rw [u0 5 (by omega)]; exact x'
      · unfold gN at *; rw [u0 5 (by omega)]; exact n'
      · rw [a _ _ (by decide)] at h9; omega
      · have : f = 1 := tb_e hf (by rw [hK0] at hq; omega)
        subst this
        rw [udt_eq]; omega
    · have u0 : ∀ f', udt t f it v f' m = t f' m := fun f' => udt_ne (Or.inr hm)
      refine ⟨?_, u, ?_, ?_, ?_, ?_, ?_⟩
      · unfold gS at *; simp only [u0]; exact s
      · unfold gC at *; simp only [u0]; exact c'
      · unfold gO at *; simp only [u0]; exact o
      · unfold gX at *; simp only [u0]; exact x'
      · unfold gN at *; simp only [u0]; exact n'
      · unfold gG at *; simp only [u0]; exact z hm
  · right
    have h5v : udt t f it v 5 v = t 5 v := udt_ne (Or.inr (fun e => hne e.symm))
    refine ⟨v2, v3, gat_3, gat_8, by rw [h5v]; exact h5, fun hcn m h0 h1 h3 h8 h5' => ?_⟩
    by_cases hv : m = v
    · exact hv
    · exfalso
      rw [gat_o hv (by decide)] at h3 h8
      have u0 := (G m h0 h1).2.1
      have s0 := gS.i0 (G m h0 h1).1
      rcases u0 with u0 | ⟨uz, u1, f', K', u2, u3, u4⟩
      · omega
      · rw [h3] at u3 u4
        have e1 : f = f' := by omega
        have e2 : K = K' := by omega
        subst e1 e2
        have := u4.2.2.2.2.2.1 hcn
        have := hc hcn
        omega
set_option maxHeartbeats 4000000 in
theorem GI.appx {N nm d lo x y e n0 l h d' it v ix la : Int} {K S f : Nat} {t g : Nat → Int → Int} (G : GI N nm t g) (O : OPt N g it K d lo x y e) (V : NRt N g S v n0 l h d') (L : LIt N t g it f K la) (hla : la ≠ 0) (hf : tb f K ≠ 0) (hs : ∀ q, so S q → so (tb f K) q) (hx : x ≤ l) (hy : y ≤ l) (hd : d + ds f K ≤ d') (he : f = 2 → K = 41 → e = 0) (hi0 : 0 ≤ ix ∧ ix ≤ 9000) (hi1 : g 5 la < ix) (hi2 : tb f K ≠ 12 → tb f K ≠ 13 → x < l ∧ ix = g 5 la + 1 ∧ la < v) : ∃ g', GI N nm (udt t 5 la v) g' ∧ OPt N g' it K d lo h h (if f = 3 then 1 else e) ∧ LIt N (udt t 5 la v) g' it f K v ∧ KS g g' it v f K ∧ g' 5 v = ix := by
  rcases L with L | ⟨l1, l2, l3, l4, l5, l6⟩
  · exact absurd L.1 hla
  have ok13 := tb_13 hf
  have hit := O.1
  have o3 := O.2.2.1
  have hcn1 : cn f K = true → tb f K ≠ 12 ∧ tb f K ≠ 13 := by
    intro hcn
    have : cf K = f ∧ f ≠ 0 := by simpa [cn] using hcn
    obtain ⟨a1, a2⟩ := this
    unfold cf at a1
    split at a1 <;> first | (subst a1; decide) | omega
  have gla := G la l1 l2
  have hxl : g 2 la ≤ x := O.2.2.2.2.2.2.2.2.2.2.2.2.2 la l1 l2 l3
  have hcc : cn f K = true → ix = g 6 it := by
    intro hcn
    have n0' := gla.2.2.2.2.2.1 (by rw [l3]; exact hit) l5 f K l4 (by rw [l3]; exact o3) hcn
    rw [l3] at n0'
    have := hcn1 hcn
    have := hi2 this.1 this.2
    omega
  obtain ⟨hne, h5, A⟩ := GI.att (ix := ix) G O V hf hs hx hy hd hi0 (fun h10 => by
    by_cases h12 : tb f K = 12 ∨ tb f K = 13
    · have v5 := hs _ V.2.2.2.2.1
      rcases h12 with e1 | e1 <;> rw [e1] at v5
      · rw [so_12] at v5; omega
      · rw [so_13] at v5; omega
    · have h2 := hi2 (by omega) (by omega)
      have sl := gla.1
      have gu := gla.2.1
      rcases gu with gu | ⟨uz, u1, f', K', u2, u3, u4⟩
      · omega
      · rw [l3] at u3 u4
        have e1 : f = f' := by omega
        have e2 : K = K' := by omega
        subst e1 e2
        have v6 := V.2.2.2.2.2.1
        have sl2 : 10 ≤ g 0 la → g 5 la ≤ g 1 la := sl.2.2.2.2.2.2.2.2.2.2.2.1
        have sl3 : g 1 la ≤ g 2 la := sl.2.2.2.1
        have hso := u4.2.1
        have : 10 ≤ g 0 la := by
          have hvs := hs _ V.2.2.2.2.1
          exact so_ge hso (fun e1 => by rw [e1] at hvs; rw [so_11] at hvs; omega) (by omega) (by omega) tb_22
        have := sl2 this
        omega) hcc he
  obtain ⟨B, KK⟩ := att_b (f := f) (ix := ix) G O V hx hy hne
  obtain ⟨o1, o2, _, o4, o5, o6, o7, o8, o9, o10, o11, o12, o13, o14⟩ := O
  obtain ⟨v1, v2, v3, v4, v5, v6, v7, v8, v9⟩ := V
  have hlv : la ≠ v := fun E => by subst E; omega
  have a : ∀ j i, (j ≠ 3 ∧ j ≠ 5 ∧ j ≠ 6 ∧ j ≠ 7 ∧ j ≠ 8) → gat g it v f ix (cn f K) x j i = g j i := fun j i hj => gat_a hj
  refine ⟨gat g it v f ix (cn f K) x, fun m h0 h1 => ?_, B, ?_, KK, gat_5⟩
  · obtain ⟨s, u, c', o, x', n, z⟩ := A m h0 h1
    have u0 : ∀ f', f' ≠ 5 → udt t 5 la v f' m = t f' m := fun f' hh => udt_ne (Or.inl hh)
    refine ⟨?_, u, ?_, ?_, ?_, ?_, ?_⟩
    · unfold gS at *; rw [u0 0 (by decide), u0 1 (by decide), u0 2 (by decide), u0 3 (by decide), u0 4 (by decide)]; exact s
    · intro f' K' hf' hK'
      have t1 := tb_13 hf'
      rw [u0 f' (by omega)]; exact c' f' K' hf' hK'
    · unfold gO at *; rw [u0 1 (by decide), u0 2 (by decide), u0 3 (by decide)]; exact o
    · by_cases hm : m = la
      · subst hm
        right
        have x3 : gat g it v f ix (cn f K) x 3 m = g 3 m := gat_o hlv (by decide)
        have x8 : gat g it v f ix (cn f K) x 8 m = g 8 m := gat_o hlv (by decide)
        have x5 : gat g it v f ix (cn f K) x 5 m = g 5 m := gat_o hlv (by decide)
        rw [udt_eq, gat_3, gat_8, gat_5, x3, x8, x5, a 0 _ (by decide), a 1 _ (by decide), a 2 _ (by decide), l3, l4]
        refine ⟨v2, v3, by omega, rfl, rfl, by omega, fun h10 => ?_, hi1⟩
        have gu := gla.2.1
        rcases gu with gu | ⟨uz, u1, f', K', u2, u3, u4⟩
        · omega
        · rw [l3] at u3 u4
          have e1 : f = f' := by omega
          have e2 : K = K' := by omega
          subst e1 e2
          have hso := u4.2.1
          have := hi2 (fun e1 => by rw [e1, so_12] at hso; omega) (fun e1 => by rw [e1, so_13] at hso; omega)
          omega
      · have : udt t 5 la v 5 m = t 5 m := udt_ne (Or.inr hm)
        unfold gX at *; rw [this]; exact x'
    · by_cases hm : m = la
      · subst hm
        intro h3 h5'
        rw [udt_eq] at h5'; omega
      · have e5 : udt t 5 la v 5 m = t 5 m := udt_ne (Or.inr hm)
        unfold gN at *
        rw [e5]
        by_cases hv : m = v
        · subst hv
          intro h3 h5' f' K' hf' hK' hcn
          rw [gat_3] at hK' ⊢
          rw [gat_8] at hf'
          rw [a _ _ (by decide)] at hK'
          have e1 : f = f' := by omega
          have e2 : K = K' := by omega
          subst e1 e2
          rw [gat_5, gat_6 hne, if_pos hcn, hcc hcn]
        · exact n hv (fun hcn h3 h8 h5' => hm (l6 hcn m h0 h1 h3 h8 h5'))
    · by_cases hm : m = it
      · subst hm
        intro hq
        rw [a _ _ (by decide), o3] at hq
        refine ⟨fun h9 => ?_, fun _ => ?_⟩
        · rw [a _ _ (by decide)] at h9; omega
        · rw [u0 1 (by decide)]
          have gz := (G m h0 h1).2.2.2.2.2.2 (by omega)
          refine gz.2 ?_
          rcases gla.2.1 with gu | ⟨uz, u1, f', K', u2, u3, u4⟩
          · omega
          · rw [l3] at u3 u4
            have e1 : f = f' := by omega
            have e2 : K = K' := by omega
            subst e1 e2
            have f1 : f = 1 := tb_e hf (by omega)
            have k44 : K = 44 := by omega
            subst f1 k44
            have := u4.2.2.2.2.2.1 rfl
            have s5 := gla.1.2.2.2.2.2.2.2.1
            omega
      · unfold gG at *; rw [u0 1 (by decide)]; exact z hm
  · right
    have h5v : udt t 5 la v 5 v = t 5 v := udt_ne (Or.inr (fun e => hlv e.symm))
    refine ⟨v2, v3, gat_3, gat_8, by rw [h5v]; exact h5, fun hcn m h0 h1 h3 h8 h5' => ?_⟩
    by_cases hv : m = v
    · exact hv
    · exfalso
      rw [gat_o hv (by decide)] at h3 h8
      by_cases hm : m = la
      · subst hm; rw [udt_eq] at h5'; omega
      · rw [udt_ne (Or.inr hm)] at h5'
        exact hm (l6 hcn m h0 h1 h3 h8 h5')
theorem GI.head {N nm d lo x y e n0 l h d' it v ix : Int} {K S f : Nat} {t g : Nat → Int → Int} (G : GI N nm t g) (O : OPt N g it K d lo x y e) (V : NRt N g S v n0 l h d') (hf : tb f K ≠ 0) (hs : ∀ q, so S q → so (tb f K) q) (hx : x ≤ l) (hy : y ≤ l) (hd : d + ds f K ≤ d') (L0 : LIt N t g it f K 0) (he : f = 2 → K = 41 → e = 0) (h1x : od K = true → f = 1 → x < 0) (hi0 : 0 ≤ ix ∧ ix ≤ 9000) (hi1 : tb f K ≠ 12 → tb f K ≠ 13 → ix = 0) : ∃ g', GI N nm (udt t f it v) g' ∧ OPt N g' it K d lo h h (if f = 3 then 1 else e) ∧ LIt N (udt t f it v) g' it f K v ∧ KS g g' it v f K := by
  obtain ⟨g', a, b, c, d, _⟩ := GI.headx G O V hf hs hx hy hd L0 he h1x hi0 hi1
  exact ⟨g', a, b, c, d⟩
theorem GI.app {N nm d lo x y e n0 l h d' it v ix la : Int} {K S f : Nat} {t g : Nat → Int → Int} (G : GI N nm t g) (O : OPt N g it K d lo x y e) (V : NRt N g S v n0 l h d') (L : LIt N t g it f K la) (hla : la ≠ 0) (hf : tb f K ≠ 0) (hs : ∀ q, so S q → so (tb f K) q) (hx : x ≤ l) (hy : y ≤ l) (hd : d + ds f K ≤ d') (he : f = 2 → K = 41 → e = 0) (hi0 : 0 ≤ ix ∧ ix ≤ 9000) (hi1 : g 5 la < ix) (hi2 : tb f K ≠ 12 → tb f K ≠ 13 → x < l ∧ ix = g 5 la + 1 ∧ la < v) : ∃ g', GI N nm (udt t 5 la v) g' ∧ OPt N g' it K d lo h h (if f = 3 then 1 else e) ∧ LIt N (udt t 5 la v) g' it f K v ∧ KS g g' it v f K := by
  obtain ⟨g', a, b, c, d, _⟩ := GI.appx G O V L hla hf hs hx hy hd he hi0 hi1 hi2
  exact ⟨g', a, b, c, d⟩
/-! a node is over -/
set_option maxHeartbeats 4000000 in
theorem GI.close {N nm d lo x y e it b : Int} {K S : Nat} {t g : Nat → Int → Int} (G : GI N nm t g) (O : OPt N g it K d lo x y e) (hb : x ≤ b ∧ y ≤ b ∧ b ≤ 9000) (hS : so S (K : Int)) (h33 : K = 33 → t 3 it = g 6 it ∧ t 3 it ≤ 12) (h44 : K = 44 → 0 < g 6 it) : ∃ g', GI N nm t g' ∧ NRt N g' S it it lo b d ∧ (∀ j m, m ≠ it → g' j m = g j m) ∧ (∀ j, j ≠ 2 → g' j it = g j it) := by
  obtain ⟨o1, o2, o3, o4, o5, o6, o7, o8, o9, o10, o11, o12, o13, o14⟩ := O
  have e2 : udt g 2 it b 2 it = b := udt_eq
  have ej : ∀ j, j ≠ 2 → ∀ i, udt g 2 it b j i = g j i := fun j hj i => udt_ne (Or.inl hj)
  have ei : ∀ j i, i ≠ it → udt g 2 it b j i = g j i := fun j i hi => udt_ne (Or.inr hi)
  refine ⟨udt g 2 it b, fun m h0 h1 => ?_, ⟨by omega, o1, o2, by rw [ej 3 (by decide)]; exact o4, by rw [ej 0 (by decide), o3]; exact hS, by rw [ej 1 (by decide)]; exact o7, by rw [e2]; omega, hb.2.2, by rw [ej 4 (by decide)]; exact o6⟩, fun j m hm => ei j m hm, fun j hj => ej j hj it⟩
  obtain ⟨s, u, c', o, x', n, z⟩ := G m h0 h1
  have e0 := ej 0 (by decide)
  have e1 := ej 1 (by decide)
  have e3 := ej 3 (by decide)
  have e4 := ej 4 (by decide)
  have e5 := ej 5 (by decide)
  have e6 := ej 6 (by decide)
  have e7 := ej 7 (by decide)
  have e8 := ej 8 (by decide)
  refine ⟨?_, ?_, ?_, ?_, ?_, ?_, ?_⟩
  · unfold gS at *
    rw [e0, e1, e4, e5, e6, e7]
    by_cases hm : m = it
    · subst hm
      rw [e2]
      obtain ⟨s1, s2, s3, s4, s5, s6, s7, s8, s9, s10, s11, s12, s13, s14, s15, s16, s17⟩ := s
      refine ⟨s1, s2, s3, by omega, by omega, s6, s7, s8, s9, s10, by omega, s12, s13, s14, fun hq => ⟨(s15 hq).1, fun _ => h33 (by omega)⟩, s16, s17⟩
    · rw [ei 2 m hm]; exact s
  · unfold gU gP gW at *
    simp only [e0, e1, e3, e4, e5, e6, e7, e8]
    rcases u with u | ⟨uz, u1, f', K', u2, u3, u4⟩
    · exact Or.inl u
    · right
      have hm : m ≠ it := fun E => by subst E; omega
      rw [ei 2 m hm]
      refine ⟨uz, u1, f', K', u2, u3, u4.1, u4.2.1, u4.2.2.1, u4.2.2.2.1, ?_, u4.2.2.2.2.2⟩
      by_cases hp : g 3 m = it
      · rw [hp, e2]; have := o14 m h0 h1 hp; omega
      · rw [ei 2 _ hp]; exact u4.2.2.2.2.1
  · unfold gC at *; simp only [e0, e3, e5, e8]; exact c'
  · intro K' hK' hO
    rw [e0] at hK'
    have o' := o K' hK' hO
    have b1 : tb 1 K' ≠ 0 ∧ tb 2 K' ≠ 0 ∧ (K' = 41 → tb 3 K' ≠ 0) ∧ K' ≠ 52 := by unfold od at hO; split at hO <;> first | decide | exact absurd hO (by decide)
    have hch : t 1 m ≠ 0 → t 1 m ≠ it := by
      intro q E
      rcases c' 1 K' b1.1 hK' with q' | q' | ⟨_, _, q3, _⟩
      · exact q q'
      · exact b1.2.2.2 q'.2.1
      · rw [E, o4] at q3; omega
    simp only [e1]
    refine ⟨fun q1 q2 => ?_, fun k q1 q2 => ?_⟩
    · rw [ei 2 _ (hch q1)]; exact o'.1 q1 q2
    · rw [ei 2 _ (hch q1)]; exact o'.2 k q1 q2
  · unfold gX at *
    simp only [e0, e1, e3, e5, e8]
    rcases x' with q | q
    · exact Or.inl q
    · right
      have hm : m ≠ it := fun E => by subst E; exact q.2.2.1 o4
      rw [ei 2 m hm]; exact q
  · unfold gN at *; simp only [e0, e3, e5, e6, e8]; exact n
  · unfold gG at *
    rw [e0, e6]
    intro hq
    refine ⟨fun h9 => ?_, (z hq).2⟩
    by_cases hm : m = it
    · subst hm; exact h44 (by omega)
    · rw [ei 2 m hm] at h9; exact (z hq).1 h9
/-! a node that is over goes on -/
set_option maxHeartbeats 4000000 in
theorem GI.again {N nm n0 lo hi d it : Int} {K S : Nat} {t g : Nat → Int → Int} (G : GI N nm t g) (V : NRt N g S it n0 lo hi d) (hK : g 0 it = (K : Int)) : ∃ g', GI N nm t g' ∧ OPt N g' it K d lo hi hi 1 ∧ (∀ j m, m ≠ it → g' j m = g j m) ∧ (∀ j, j ≠ 2 → g' j it = g j it) := by
  obtain ⟨v1, v2, v3, v4, v5, v6, v7, v8, v9⟩ := V
  have e2 : udt g 2 it 100000 2 it = 100000 := udt_eq
  have ej : ∀ j, j ≠ 2 → ∀ i, udt g 2 it 100000 j i = g j i := fun j hj i => udt_ne (Or.inl hj)
  have ei : ∀ j i, i ≠ it → udt g 2 it 100000 j i = g j i := fun j i hi => udt_ne (Or.inr hi)
  have e0 := ej 0 (by decide)
  have e1 := ej 1 (by decide)
  have e3 := ej 3 (by decide)
  have e4 := ej 4 (by decide)
  have e5 := ej 5 (by decide)
  have e6 := ej 6 (by decide)
  have e7 := ej 7 (by decide)
  have e8 := ej 8 (by decide)
  have sit1 := gS.b1 (G it v2 v3).1
  have sitb := gS.be (G it v2 v3).1
  have sit7 := gS.p7 (G it v2 v3).1
  have hUm : ∀ m, 0 < m → m < N → g 3 m = it → g 2 m ≤ g 2 it := by
    intro m h0 h1 h3
    rcases (G m h0 h1).2.1 with u | ⟨uz, u1, f', K', u2, u3, u4⟩
    · omega
    · rw [h3] at u4; exact u4.2.2.2.2.1
  refine ⟨udt g 2 it 100000, fun m h0 h1 => ?_, ⟨v2, v3, by rw [e0]; exact hK, by rw [e3]; exact v4, e2, by rw [e4]; exact v9, by rw [e1]; exact v6, by rw [e1]; omega, by omega, fun h => absurd h (by decide), by rw [e7]; omega, v8, v8, fun m h0 h1 h3 => ?_⟩, fun j m hm => ei j m hm, fun j hj => ej j hj it⟩
  · obtain ⟨s, u, c', o, x', n, z⟩ := G m h0 h1
    refine ⟨?_, ?_, ?_, ?_, ?_, ?_, ?_⟩
    · unfold gS at *
      rw [e0, e1, e4, e5, e6, e7]
      by_cases hm : m = it
      · subst hm
        rw [e2]
        obtain ⟨s1, s2, s3, s4, s5, s6, s7, s8, s9, s10, s11, s12, s13, s14, s15, s16, s17⟩ := s
        refine ⟨s1, s2, s3, by omega, by omega, s6, s7, s8, s9, s10, by omega, s12, s13, s14, fun hq => ⟨(s15 hq).1, fun h9 => absurd h9 (by omega)⟩, s16, s17⟩
      · rw [ei 2 m hm]; exact s
    · unfold gU gP gW at *
      simp only [e0, e1, e3, e4, e5, e6, e7, e8]
      rcases u with u | ⟨uz, u1, f', K', u2, u3, u4⟩
      · exact Or.inl u
      · right
        have hm : m ≠ it := fun E => by subst E; clear u4; omega
        rw [ei 2 m hm]
        refine ⟨uz, u1, f', K', u2, u3, u4.1, u4.2.1, u4.2.2.1, u4.2.2.2.1, ?_, u4.2.2.2.2.2⟩
        · by_cases hp : g 3 m = it
          · rw [hp, e2]; have := hUm m h0 h1 hp; omega
          · rw [ei 2 _ hp]; exact u4.2.2.2.2.1
    · unfold gC at *; simp only [e0, e3, e5, e8]; exact c'
    · intro K' hK' hO
      rw [e0] at hK'
      have o' := o K' hK' hO
      have b1 : tb 1 K' ≠ 0 ∧ tb 2 K' ≠ 0 ∧ (K' = 41 → tb 3 K' ≠ 0) ∧ K' ≠ 52 := by unfold od at hO; split at hO <;> first | decide | exact absurd hO (by decide)
      have hch : t 1 m ≠ 0 → t 1 m ≠ it := by
        intro q E
        rcases c' 1 K' b1.1 hK' with q' | q' | ⟨_, _, q3, _⟩
        · exact q q'
        · exact b1.2.2.2 q'.2.1
        · rw [E, v4] at q3; omega
      simp only [e1]
      refine ⟨fun q1 q2 => ?_, fun k q1 q2 => ?_⟩
      · rw [ei 2 _ (hch q1)]; exact o'.1 q1 q2
      · rw [ei 2 _ (hch q1)]; exact o'.2 k q1 q2
    · unfold gX at *
      simp only [e0, e1, e3, e5, e8]
      rcases x' with q | q
      · exact Or.inl q
      · right
        have hm : m ≠ it := fun E => by subst E; exact q.2.2.1 v4
        rw [ei 2 m hm]; exact q
    · unfold gN at *; simp only [e0, e3, e5, e6, e8]; exact n
    · unfold gG at *
      rw [e0, e6]
      intro hq
      refine ⟨fun h9 => ?_, (z hq).2⟩
      by_cases hm : m = it
      · subst hm; rw [e2] at h9; omega
      · rw [ei 2 m hm] at h9; exact (z hq).1 h9
  · rw [e3] at h3
    have hm : m ≠ it := fun E => by subst E; omega
    rw [ei 2 m hm]
    have := hUm m h0 h1 h3
    omega
theorem GI.app1 {N nm d lo x y e n0 l h d' it v la : Int} {K S f : Nat} {t g : Nat → Int → Int} (G : GI N nm t g) (O : OPt N g it K d lo x y e) (V : NRt N g S v n0 l h d') (L : LIt N t g it f K la) (hla : la ≠ 0) (hf : tb f K ≠ 0) (h11 : tb f K ≠ 11 ∧ tb f K ≠ 12 ∧ tb f K ≠ 13) (hs : ∀ q, so S q → so (tb f K) q) (hx : x < l) (hlv : la < v) (hy : y ≤ l) (hd : d + ds f K ≤ d') (he : f = 2 → K = 41 → e = 0) : ∃ g', GI N nm (udt t 5 la v) g' ∧ OPt N g' it K d lo h h (if f = 3 then 1 else e) ∧ LIt N (udt t 5 la v) g' it f K v ∧ KS g g' it v f K := by
  have gl : 0 ≤ g 5 la ∧ g 5 la + 1 ≤ 9000 := by
    rcases L with L | ⟨l1, l2, l3, l4, l5, l6⟩
    · exact absurd L.1 hla
    have gla := G la l1 l2
    have s0 := gS.i0 gla.1
    have sb := gS.ib gla.1
    have se := gS.be gla.1
    have hxl : g 2 la ≤ x := O.2.2.2.2.2.2.2.2.2.2.2.2.2 la l1 l2 l3
    have sv := gS.be (G v V.2.1 V.2.2.1).1
    have v8 := V.2.2.2.2.2.2.2.1
    have v7 := V.2.2.2.2.2.2.1
    have v6 := V.2.2.2.2.2.1
    rcases gla.2.1 with gu | ⟨uz, u1, f', K', u2, u3, u4⟩
    · have := O.1; omega
    · rw [l3] at u3 u4
      have o3 := O.2.2.1
      have e1 : f = f' := by omega
      have e2 : K = K' := by omega
      subst e1 e2
      have sb' := sb (so_ge u4.2.1 h11.1 h11.2.1 h11.2.2 tb_22)
      clear u4 sb
      omega
  exact GI.app (ix := g 5 la + 1) G O V L hla hf hs (by omega) hy hd he (by omega) (by omega) (fun _ _ => ⟨hx, rfl, hlv⟩)
/-- closing: one end alone -/
def KC (g g' : Nat → Int → Int) (it : Int) : Prop := g 3 it = 0 ∧ ∀ j m, (m ≠ it ∨ j ≠ 2) → g' j m = g j m
/-- a new node that v hangs on at once -/
def KV (g g' : Nat → Int → Int) (N N' v : Int) : Prop := N ≤ N' ∧ v < N ∧ (∀ j m, m < N → m ≠ v → g' j m = g j m) ∧ (∀ m, N ≤ m → m < N' → g' 3 m = 0 ∨ N ≤ g' 3 m) ∧ N ≤ g' 3 v
theorem OPt.gk {N N' d lo x y e it c : Int} {K : Nat} {g g' : Nat → Int → Int} (O : OPt N g it K d lo x y e) (h : GK g g' N N' c) (hc : c ≠ it) : OPt N' g' it K d lo x y e := by
  obtain ⟨o1, o2, o3, o4, o5, o6, o7, o8, o9, o10, o11, o12, o13, o14⟩ := O
  obtain ⟨a, b, b'⟩ := h
  have e1 := fun j => b j it o2 (Or.inl (fun e => hc e.symm))
  refine ⟨o1, by omega, by rw [e1]; exact o3, by rw [e1]; exact o4, by rw [e1]; exact o5, by rw [e1]; exact o6, by rw [e1]; exact o7, by rw [e1]; exact o8, o9, by rw [e1]; exact o10, by rw [e1]; exact o11, o12, o13, fun m h0 h1 h3 => ?_⟩
  by_cases hm : m < N
  · rw [b 3 m hm (Or.inr (Or.inl (by decide)))] at h3
    rw [b 2 m hm (Or.inr (Or.inl (by decide)))]; exact o14 m h0 hm h3
  · have := b' m (by omega) h1; omega
theorem NRt.gk {N N' v n0 lo hi d c : Int} {S : Nat} {g g' : Nat → Int → Int} (V : NRt N g S v n0 lo hi d) (h : GK g g' N N' c) : NRt N' g' S v n0 lo hi d := by
  obtain ⟨v1, v2, v3, v4, v5, v6, v7, v8, v9⟩ := V
  obtain ⟨a, b, b'⟩ := h
  have e1 := fun j hj => b j v v3 (Or.inr (Or.inl hj))
  exact ⟨v1, v2, by omega, by rw [e1 3 (by decide)]; exact v4, by rw [e1 0 (by decide)]; exact v5, by rw [e1 1 (by decide)]; exact v6, by rw [e1 2 (by decide)]; exact v7, v8, by rw [e1 4 (by decide)]; exact v9⟩
theorem LIt.gk {N N' it l c : Int} {f K : Nat} {t t' g g' : Nat → Int → Int} (L : LIt N t g it f K l) (h : GK g g' N N' c) (ht : ∀ m, 0 < m → m < N → t' 5 m = t 5 m) (hc : c ≠ it) (hi : 0 < it ∧ it < N) : LIt N' t' g' it f K l := by
  obtain ⟨a, b, b'⟩ := h
  rcases L with ⟨l1, l2⟩ | ⟨l1, l2, l3, l4, l5, l6⟩
  · exact Or.inl ⟨l1, fun q => by rw [b 6 it hi.2 (Or.inl (fun e => hc e.symm))]; exact l2 q⟩
  · refine Or.inr ⟨l1, by omega, by rw [b 3 l l2 (Or.inr (Or.inl (by decide)))]; exact l3, by rw [b 8 l l2 (Or.inr (Or.inl (by decide)))]; exact l4, by rw [ht l l1 l2]; exact l5, fun hcn m h0 h1 h3 h8 h5 => ?_⟩
    by_cases hm : m < N
    · rw [b 3 m hm (Or.inr (Or.inl (by decide)))] at h3
      rw [b 8 m hm (Or.inr (Or.inl (by decide)))] at h8
      rw [ht m h0 hm] at h5
      exact l6 hcn m h0 hm h3 h8 h5
    · have := b' m (by omega) h1; omega
theorem OPt.ks {N d lo x y e it i2 v : Int} {K f2 K2 : Nat} {g g' : Nat → Int → Int} (O : OPt N g it K d lo x y e) (h : KS g g' i2 v f2 K2) (h2 : it ≠ i2) (hv : g 2 v ≤ 9000) : OPt N g' it K d lo x y e := by
  obtain ⟨o1, o2, o3, o4, o5, o6, o7, o8, o9, o10, o11, o12, o13, o14⟩ := O
  obtain ⟨a, b, b', b3, _⟩ := h
  have hv' : it ≠ v := fun E => by subst E; omega
  have e1 := fun j => a j it hv' h2
  refine ⟨o1, o2, by rw [e1]; exact o3, by rw [e1]; exact o4, by rw [e1]; exact o5, by rw [e1]; exact o6, by rw [e1]; exact o7, by rw [e1]; exact o8, o9, by rw [e1]; exact o10, by rw [e1]; exact o11, o12, o13, fun m h0 h1 h3 => ?_⟩
  by_cases hm : m = v
  · subst hm; omega
  · by_cases hi : m = i2
    · subst hi; rw [b' 3 (by decide) (by decide)] at h3; rw [b' 2 (by decide) (by decide)]; exact o14 m h0 h1 h3
    · rw [a 3 m hm hi] at h3; rw [a 2 m hm hi]; exact o14 m h0 h1 h3
theorem NRt.ks {N n0 lo hi d w i2 v : Int} {S f2 K2 : Nat} {g g' : Nat → Int → Int} (V : NRt N g S w n0 lo hi d) (h : KS g g' i2 v f2 K2) (h2 : g 2 i2 = 100000) (hv : w ≠ v) : NRt N g' S w n0 lo hi d := by
  obtain ⟨v1, v2, v3, v4, v5, v6, v7, v8, v9⟩ := V
  have hw : w ≠ i2 := fun E => by subst E; omega
  have e1 := fun j => h.1 j w hv hw
  exact ⟨v1, v2, v3, by rw [e1]; exact v4, by rw [e1]; exact v5, by rw [e1]; exact v6, by rw [e1]; exact v7, v8, by rw [e1]; exact v9⟩
theorem LIt.ks {N it l i2 v fi z : Int} {f K f2 K2 ff : Nat} {t g g' : Nat → Int → Int} (L : LIt N t g it f K l) (h : KS g g' i2 v f2 K2) (h2 : it ≠ i2) (h3i : g 3 i2 = 0) (h3v : g 3 v = 0) (hit : it ≠ v) (h0 : 0 < it) (hfi : ff = 5 → fi ≠ l ∧ g 3 fi ≠ it) : LIt N (udt t ff fi z) g' it f K l := by
  obtain ⟨a, b, b', b3, _⟩ := h
  rcases L with ⟨l1, l2⟩ | ⟨l1, l2, l3, l4, l5, l6⟩
  · exact Or.inl ⟨l1, fun q => by rw [a 6 it hit h2]; exact l2 q⟩
  · have hl1 : l ≠ v := fun E => by subst E; omega
    have hl2 : l ≠ i2 := fun E => by subst E; omega
    have e5 : ∀ m, (ff = 5 → fi ≠ m) → udt t ff fi z 5 m = t 5 m := fun m hm => udt_ne (by by_cases q : ff = 5; exact Or.inr (fun e => hm q e.symm); exact Or.inl (fun e => q e.symm))
    refine Or.inr ⟨l1, l2, by rw [a 3 l hl1 hl2]; exact l3, by rw [a 8 l hl1 hl2]; exact l4, by rw [e5 l (fun q => (hfi q).1)]; exact l5, fun hcn m m0 m1 m3 m8 m5 => ?_⟩
    by_cases hm : m = v
    · subst hm; omega
    · by_cases hi : m = i2
      · subst hi; rw [b' 3 (by decide) (by decide)] at m3; omega
      · rw [a 3 m hm hi] at m3
        rw [a 8 m hm hi] at m8
        rw [e5 m (fun q e => (hfi q).2 (by rw [e]; exact m3))] at m5
        exact l6 hcn m m0 m1 m3 m8 m5
theorem OPt.kc {N d lo x y e it i2 : Int} {K : Nat} {g g' : Nat → Int → Int} (O : OPt N g it K d lo x y e) (h : KC g g' i2) (h2 : it ≠ i2) : OPt N g' it K d lo x y e := by
  obtain ⟨o1, o2, o3, o4, o5, o6, o7, o8, o9, o10, o11, o12, o13, o14⟩ := O
  obtain ⟨a, b⟩ := h
  have e1 := fun j => b j it (Or.inl h2)
  refine ⟨o1, o2, by rw [e1]; exact o3, by rw [e1]; exact o4, by rw [e1]; exact o5, by rw [e1]; exact o6, by rw [e1]; exact o7, by rw [e1]; exact o8, o9, by rw [e1]; exact o10, by rw [e1]; exact o11, o12, o13, fun m h0 h1 h3 => ?_⟩
  rw [b 3 m (Or.inr (by decide))] at h3
  have hm : m ≠ i2 := fun E => by subst E; omega
  rw [b 2 m (Or.inl hm)]; exact o14 m h0 h1 h3
theorem NRt.kc {N n0 lo hi d w i2 : Int} {S : Nat} {g g' : Nat → Int → Int} (V : NRt N g S w n0 lo hi d) (h : KC g g' i2) (h2 : w ≠ i2) : NRt N g' S w n0 lo hi d := by
  obtain ⟨v1, v2, v3, v4, v5, v6, v7, v8, v9⟩ := V
  have e1 := fun j => h.2 j w (Or.inl h2)
  exact ⟨v1, v2, v3, by rw [e1]; exact v4, by rw [e1]; exact v5, by rw [e1]; exact v6, by rw [e1]; exact v7, v8, by rw [e1]; exact v9⟩
theorem LIt.kc {N it l i2 : Int} {f K : Nat} {t g g' : Nat → Int → Int} (L : LIt N t g it f K l) (h : KC g g' i2) : LIt N t g' it f K l := by
  have e1 := fun j (hj : j ≠ 2) m => h.2 j m (Or.inr hj)
  unfold LIt at *
  rw [e1 6 (by decide), e1 3 (by decide), e1 8 (by decide)]
  rcases L with L | ⟨l1, l2, l3, l4, l5, l6⟩
  · exact Or.inl L
  · refine Or.inr ⟨l1, l2, l3, l4, l5, fun hcn m h0 h1 h3 h8 h5 => ?_⟩
    rw [e1 3 (by decide)] at h3
    rw [e1 8 (by decide)] at h8
    exact l6 hcn m h0 h1 h3 h8 h5
theorem OPt.kv {N N' d lo x y e it v : Int} {K : Nat} {g g' : Nat → Int → Int} (O : OPt N g it K d lo x y e) (h : KV g g' N N' v) (hv : g 2 v ≤ 9000) : OPt N' g' it K d lo x y e := by
  obtain ⟨o1, o2, o3, o4, o5, o6, o7, o8, o9, o10, o11, o12, o13, o14⟩ := O
  obtain ⟨a, av, b, b', b3⟩ := h
  have hv' : it ≠ v := fun E => by subst E; omega
  have e1 := fun j => b j it o2 hv'
  refine ⟨o1, by omega, by rw [e1]; exact o3, by rw [e1]; exact o4, by rw [e1]; exact o5, by rw [e1]; exact o6, by rw [e1]; exact o7, by rw [e1]; exact o8, o9, by rw [e1]; exact o10, by rw [e1]; exact o11, o12, o13, fun m h0 h1 h3 => ?_⟩
  by_cases hm : m < N
  · by_cases hmv : m = v
    · subst hmv; omega
    · rw [b 3 m hm hmv] at h3
      rw [b 2 m hm hmv]; exact o14 m h0 hm h3
  · have := b' m (by omega) h1; omega
theorem NRt.kv {N N' w n0 lo hi d v : Int} {S : Nat} {g g' : Nat → Int → Int} (V : NRt N g S w n0 lo hi d) (h : KV g g' N N' v) (hv : w ≠ v) : NRt N' g' S w n0 lo hi d := by
  obtain ⟨v1, v2, v3, v4, v5, v6, v7, v8, v9⟩ := V
  have e1 := fun j => h.2.2.1 j w v3 hv
  have := h.1
  exact ⟨v1, v2, by omega, by rw [e1]; exact v4, by rw [e1]; exact v5, by rw [e1]; exact v6, by rw [e1]; exact v7, v8, by rw [e1]; exact v9⟩
theorem LIt.kv {N N' it l v : Int} {f K : Nat} {t t' g g' : Nat → Int → Int} (L : LIt N t g it f K l) (h : KV g g' N N' v) (ht : ∀ m, 0 < m → m < N → t' 5 m = t 5 m) (hit : it ≠ v) (h3v : g 3 v = 0) (hi : 0 < it ∧ it < N) : LIt N' t' g' it f K l := by
  obtain ⟨a, av, b, b', b3⟩ := h
  rcases L with ⟨l1, l2⟩ | ⟨l1, l2, l3, l4, l5, l6⟩
  · exact Or.inl ⟨l1, fun q => by rw [b 6 it hi.2 hit]; exact l2 q⟩
  · have hl : l ≠ v := fun E => by subst E; omega
    refine Or.inr ⟨l1, by omega, by rw [b 3 l l2 hl]; exact l3, by rw [b 8 l l2 hl]; exact l4, by rw [ht l l1 l2]; exact l5, fun hcn m h0 h1 h3 h8 h5 => ?_⟩
    by_cases hm : m < N
    · by_cases hmv : m = v
      · subst hmv; omega
      · rw [b 3 m hm hmv] at h3
        rw [b 8 m hm hmv] at h8
        rw [ht m h0 hm] at h5
        exact l6 hcn m h0 hm h3 h8 h5
    · have := b' m (by omega) h1; omega
theorem GK.ks {N N' c it v : Int} {f K : Nat} {g g1 g2 : Nat → Int → Int} (h : GK g g1 N N' c) (k : KS g1 g2 it v f K) (hv : N ≤ v) (hi : N ≤ it ∨ it = c ∧ c ≠ 0 ∧ f ≠ 3) : GK g g2 N N' c := by
  obtain ⟨a, b, b'⟩ := h
  obtain ⟨k1, k2, k3, k4, k5, k6, k7⟩ := k
  refine ⟨a, fun j m hm hj => ?_, fun m h0 h1 => ?_⟩
  · by_cases hmi : m = it
    · subst hmi
      have hj6 : j ≠ 6 := by omega
      by_cases hj7 : j = 7
      · subst hj7; rw [k5 (by omega)]; exact b 7 m hm hj
      · rw [k3 j hj6 hj7]; exact b j m hm hj
    · rw [k1 j m (by omega) hmi]; exact b j m hm hj
  · by_cases hmv : m = v
    · subst hmv; rw [k4]; omega
    · by_cases hmi : m = it
      · subst hmi; rw [k3 3 (by decide) (by decide)]; exact b' m h0 h1
      · rw [k1 3 m hmv hmi]; exact b' m h0 h1
theorem GK.kc {N N' c it : Int} {g g1 g2 : Nat → Int → Int} (h : GK g g1 N N' c) (k : KC g1 g2 it) (hi : N ≤ it) : GK g g2 N N' c := by
  obtain ⟨a, b, b'⟩ := h
  exact ⟨a, fun j m hm hj => (k.2 j m (Or.inl (by omega))).trans (b j m hm hj), fun m h0 h1 => by rw [k.2 3 m (Or.inr (by decide))]; exact b' m h0 h1⟩
theorem GK.kv {N N1 N' c v : Int} {g g1 g2 : Nat → Int → Int} (h : GK g g1 N N1 c) (k : KV g1 g2 N1 N' v) (hv : N ≤ v) : GK g g2 N N' c := by
  obtain ⟨a, b, b'⟩ := h
  obtain ⟨a', av, k1, k2, k3⟩ := k
  refine ⟨by omega, fun j m hm hj => (k1 j m (by omega) (by omega)).trans (b j m hm hj), fun m h0 h1 => ?_⟩
  by_cases hm : m < N1
  · by_cases hmv : m = v
    · subst hmv; omega
    · rw [k1 3 m hm hmv]; exact b' m h0 hm
  · have := k2 m (by omega) h1; omega

/-! OVER STATES, under a condition P (no fault) -/
def GS0 (s : rS) (k : Nat) (g : Nat → Int → Int) : Prop := GI (rF s k 7) (rF s k 12) (tr s k) g
def OP (s : rS) (k : Nat) (g : Nat → Int → Int) (it : Int) (K : Nat) (d lo x y e : Int) : Prop := OPt (rF s k 7) g it K d lo x y e
def NR (s : rS) (k : Nat) (g : Nat → Int → Int) (S : Nat) (v n0 lo hi d : Int) : Prop := NRt (rF s k 7) g S v n0 lo hi d
def LI (s : rS) (k : Nat) (g : Nat → Int → Int) (it : Int) (f K : Nat) (l : Int) : Prop := LIt (rF s k 7) (tr s k) g it f K l
theorem imx {P : Prop} {Q : (Nat → Int → Int) → Prop} (g : Nat → Int → Int) (h : P → ∃ g', Q g') : ∃ g', Im P (Q g') := by
  by_cases hp : P
  · obtain ⟨g', q⟩ := h hp; exact ⟨g', fun _ => q⟩
  · exact ⟨g, fun q => absurd q hp⟩
theorem tr_u {s : rS} {k f : Nat} {i x : Int} (hk : rgk k) (hf : f < 6) : tr (sT s k f i x) k = udt (tr s k) f i x := tr_in hk (Or.inl hf)
theorem GS0.mv {s t : rS} {k : Nat} {g : Nat → Int → Int} (hk : rgk k) (G : GS0 s k g) (R : RG s t k 0) (hN : rF t k 7 = rF s k 7 := by first | omega | (simp only [rF_sT, rF_sA]; omega)) (hn : rF s k 12 ≤ rF t k 12 := by first | omega | (simp only [rF_sT, rF_sA]; omega)) : GS0 t k g := GI.mv G (fun f i hf _ hi => RG.f hk R hf hi (Or.inr (Or.inl rfl))) hN hn
theorem OP.gk {s t : rS} {k K : Nat} {g g' : Nat → Int → Int} {it d lo x y e c : Int} (O : OP s k g it K d lo x y e) (h : GK g g' (rF s k 7) (rF t k 7) c) (hc : c ≠ it := by omega) : OP t k g' it K d lo x y e := OPt.gk O h hc
theorem OP.gk0 {s t : rS} {k K : Nat} {g g' : Nat → Int → Int} {it d lo x y e : Int} (O : OP s k g it K d lo x y e) (h : GK g g' (rF s k 7) (rF t k 7) 0) : OP t k g' it K d lo x y e := OPt.gk O h (by have := O.1; omega)
theorem NR.gk {s t : rS} {k S : Nat} {g g' : Nat → Int → Int} {v n0 lo hi d c : Int} (V : NR s k g S v n0 lo hi d) (h : GK g g' (rF s k 7) (rF t k 7) c) : NR t k g' S v n0 lo hi d := NRt.gk V h
theorem LI.gk {s t : rS} {k f K : Nat} {g g' : Nat → Int → Int} {it l c c' d lo x y e : Int} (hk : rgk k) (L : LI s k g it f K l) (O : OP s k g it K d lo x y e) (R : RG s t k c') (h : GK g g' (rF s k 7) (rF t k 7) c) (hc : c ≠ it) : LI t k g' it f K l := LIt.gk L h (fun m _ hm => RG.f hk R (by decide) hm (by omega)) hc ⟨O.1, O.2.1⟩
theorem OP.ks {s : rS} {k K f2 K2 ff : Nat} {g g' : Nat → Int → Int} {it d lo x y e i2 v i z : Int} (O : OP s k g it K d lo x y e) (h : KS g g' i2 v f2 K2) (h2 : it ≠ i2) (hv : g 2 v ≤ 9000) : OP (sT s k ff i z) k g' it K d lo x y e := OPt.ks O h h2 hv
theorem NR.ks {s : rS} {k S f2 K2 ff : Nat} {g g' : Nat → Int → Int} {w n0 lo hi d i2 v i z : Int} (V : NR s k g S w n0 lo hi d) (h : KS g g' i2 v f2 K2) (h2 : g 2 i2 = 100000) (hv : w ≠ v) : NR (sT s k ff i z) k g' S w n0 lo hi d := NRt.ks V h h2 hv
theorem LI.ks {s : rS} {k f K f2 K2 ff : Nat} {g g' : Nat → Int → Int} {it l i2 v fi z d lo x y e : Int} (hk : rgk k) (hff : ff < 6) (L : LI s k g it f K l) (O : OP s k g it K d lo x y e) (h : KS g g' i2 v f2 K2) (h2 : it ≠ i2) (h3i : g 3 i2 = 0) (h3v : g 3 v = 0 ∧ g 2 v ≤ 9000) (hfi : ff = 5 → fi ≠ l ∧ g 3 fi ≠ it) : LI (sT s k ff fi z) k g' it f K l := by
  unfold LI
  rw [tr_u hk hff]
  exact LIt.ks L h h2 h3i h3v.1 (fun E => by subst E; have := O.2.2.2.2.1; omega) O.1 hfi
theorem OP.kc {s : rS} {k K : Nat} {g g' : Nat → Int → Int} {it d lo x y e i2 : Int} (O : OP s k g it K d lo x y e) (h : KC g g' i2) (h2 : it ≠ i2) : OP s k g' it K d lo x y e := OPt.kc O h h2
theorem NR.kc {s : rS} {k S : Nat} {g g' : Nat → Int → Int} {w n0 lo hi d i2 : Int} (V : NR s k g S w n0 lo hi d) (h : KC g g' i2) (h2 : w ≠ i2) : NR s k g' S w n0 lo hi d := NRt.kc V h h2
theorem LI.kc {s : rS} {k f K : Nat} {g g' : Nat → Int → Int} {it l i2 : Int} (L : LI s k g it f K l) (h : KC g g' i2) : LI s k g' it f K l := LIt.kc L h
theorem OP.kv {s t : rS} {k K : Nat} {g g' : Nat → Int → Int} {it d lo x y e v : Int} (O : OP s k g it K d lo x y e) (h : KV g g' (rF s k 7) (rF t k 7) v) (hv : g 2 v ≤ 9000) : OP t k g' it K d lo x y e := OPt.kv O h hv
theorem NR.kv {s t : rS} {k S : Nat} {g g' : Nat → Int → Int} {w n0 lo hi d v : Int} (V : NR s k g S w n0 lo hi d) (h : KV g g' (rF s k 7) (rF t k 7) v) (hv : w ≠ v) : NR t k g' S w n0 lo hi d := NRt.kv V h hv
theorem LI.kv {s t : rS} {k f K : Nat} {g g' : Nat → Int → Int} {it l v c' d lo x y e : Int} (hk : rgk k) (L : LI s k g it f K l) (O : OP s k g it K d lo x y e) (R : RG s t k c') (h : KV g g' (rF s k 7) (rF t k 7) v) (h3v : g 3 v = 0 ∧ g 2 v ≤ 9000) : LI t k g' it f K l := LIt.kv L h (fun m _ hm => RG.f hk R (by decide) hm (by omega)) (fun E => by subst E; have := O.2.2.2.2.1; omega) h3v.1 ⟨O.1, O.2.1⟩
theorem LI.pos0 {s : rS} {k : Nat} {g : Nat → Int → Int} {it l d lo x y e : Int} (G : GS0 s k g) (O : OP s k g it 44 d lo x y e) (L : LI s k g it 1 44 l) (hl : l ≠ 0) : 0 < g 6 it := by
  rcases L with q | ⟨l1, l2, l3, l4, l5, l6⟩
  · exact absurd q.1 hl
  · have gla := G l l1 l2
    rcases gla.2.1 with gu | ⟨uz, u1, f', K', u2, u3, u4⟩
    · have := O.1; omega
    · rw [l3] at u3 u4
      have o3 := O.2.2.1
      have e1 : f' = 1 := by omega
      have e2 : K' = 44 := by omega
      subst e1 e2
      have := u4.2.2.2.2.2.1 rfl
      have s5 := gla.1.2.2.2.2.2.2.2.1
      omega
theorem LI.z {s : rS} {k f K : Nat} {g : Nat → Int → Int} {it : Int} (h : cn f K = true → g 6 it = 0) : LI s k g it f K 0 := Or.inl ⟨rfl, h⟩
theorem OP.cst {s : rS} {k K : Nat} {g : Nat → Int → Int} {it d lo x y e d' lo' x' y' e' : Int} (O : OP s k g it K d lo x y e) (h1 : d = d' := by omega) (h2 : lo' ≤ lo := by omega) (h3 : x ≤ x' := by omega) (h4 : y ≤ y' := by omega) (h5 : e = e' := by omega) (h6 : x' ≤ 9000 ∧ y' ≤ 9000 := by omega) : OP s k g it K d' lo' x' y' e' := by
  subst h1 h5
  obtain ⟨o1, o2, o3, o4, o5, o6, o7, o8, o9, o10, o11, o12, o13, o14⟩ := O
  exact ⟨o1, o2, o3, o4, o5, o6, by omega, by omega, by omega, o10, by omega, h6.1, h6.2, fun m a b c => by have := o14 m a b c; omega⟩
theorem NR.cst {s : rS} {k S : Nat} {g : Nat → Int → Int} {v n0 lo hi d n0' lo' hi' d' : Int} (V : NR s k g S v n0 lo hi d) (h1 : d = d' := by omega) (h2 : lo' ≤ lo := by omega) (h3 : hi ≤ hi' := by omega) (h4 : n0' ≤ n0 := by omega) (h5 : hi' ≤ 9000 := by omega) : NR s k g S v n0' lo' hi' d' := by
  subst h1
  obtain ⟨v1, v2, v3, v4, v5, v6, v7, v8, v9⟩ := V
  exact ⟨by omega, v2, v3, v4, v5, by omega, by omega, h5, v9⟩
theorem NR.so {s : rS} {k S S' : Nat} {g : Nat → Int → Int} {v n0 lo hi d : Int} (V : NR s k g S v n0 lo hi d) (h : ∀ q, so S q → so S' q) : NR s k g S' v n0 lo hi d := ⟨V.1, V.2.1, V.2.2.1, V.2.2.2.1, h _ V.2.2.2.2.1, V.2.2.2.2.2⟩
theorem GK.gs {N N1 N2 N' c : Int} {g g1 g2 : Nat → Int → Int} (h : GK g g1 N N1 c) (k : GK g1 g2 N2 N' 0) (hN : N2 = N1 := by first | omega | (simp only [rF_sT, rF_sA]; omega)) : GK g g2 N N' c := by subst hN; exact h.trans k (Or.inr (Or.inl rfl))
theorem GI.newV {N nm b d n0 l h d' v : Int} {K S : Nat} {t t' g : Nat → Int → Int} (G : GI N nm t g) (V : NRt N g S v n0 l h d') (hN : 0 < N) (ht : ∀ f i, f < 6 → 0 < i → i < N → t' f i = t f i) (h5 : t' 5 N = 0) (h1 : t' 1 N = v) (hc : ∀ f, f ≠ 1 → tb f K ≠ 0 → t' f N = 0 ∨ f = 2 ∧ K = 52 ∧ t' f N = -1) (hs : gS (udt t' 1 N 0) nm (gnw g N K b d) N) (hf : tb 1 K ≠ 0) (hso : ∀ q, so S q → so (tb 1 K) q) (hb : b ≤ l) (hl : 0 ≤ l) (hd : d + ds 1 K ≤ d') (h12 : tb 1 K ≠ 12 ∧ tb 1 K ≠ 13) : ∃ g', GI (N + 1) nm t' g' ∧ KV g g' N (N + 1) v ∧ OPt (N + 1) g' N K d b h h 0 ∧ LIt (N + 1) t' g' N 1 K v ∧ (cn 1 K = false → g' 6 N = 0) ∧ ∀ j, j ≠ 3 → j ≠ 5 → j ≠ 8 → g' j v = g j v := by
  have hvN := V.2.2.1
  have hv0 := V.2.1
  obtain ⟨G1, K1, O1⟩ := GI.new (t' := udt t' 1 N 0) (K := K) (b := b) (d := d) G hN (fun f i hf' a b => by rw [udt_ne (Or.inr (by omega))]; exact ht f i hf' a b) (by rw [udt_ne (Or.inl (by decide))]; exact h5) (fun f hf' => by
    by_cases f1 : f = 1
    · subst f1; left; exact udt_eq
    · rw [udt_ne (Or.inl f1)]; exact hc f f1 hf') hs
  have V1 := NRt.gk V K1
  have L0 : LIt (N + 1) (udt t' 1 N 0) (gnw g N K b d) N 1 K 0 := Or.inl ⟨rfl, fun _ => by rw [gnw_N]; simp⟩
  obtain ⟨g', G2, O2, L2, K2⟩ := GI.head (ix := 0) G1 O1 V1 hf hso (by omega) hb hd L0 (fun a => absurd a (by decide)) (fun _ _ => by omega) (by omega) (fun _ _ => rfl)
  have et : ∀ f i, udt (udt t' 1 N 0) 1 N v f i = t' f i := by
    intro f i
    rw [udt_ap, udt_ap]
    split
    · rename_i q; rw [q.1, q.2]; exact h1.symm
    · rfl
  have e2 : udt (udt t' 1 N 0) 1 N v = t' := by funext f i; exact et f i
  rw [e2] at G2 L2
  obtain ⟨k1, k2, k3, k4, k5, k6, k7⟩ := K2
  refine ⟨g', G2, ⟨by omega, hvN, fun j m hm hmv => ?_, fun m a b => ?_, by omega⟩, O2, L2, fun hcn => ?_, fun j j3 j5 j8 => (k2 j j3 j5 j8).trans (gnw_o (by omega))⟩
  · rw [k1 j m hmv (by omega), gnw_o (by omega)]
  · have : m = N := by omega
    subst this
    rw [k3 3 (by decide) (by decide), gnw_N]; simp
  · rw [k6, hcn, gnw_N]; simp

theorem ENo_41 {P : Prop} {s t : rS} {k : Nat} {g : Nat → Int → Int} {r x2 x3 : Int} (b d : Int) (hk : rgk k) (G : Im P (GS0 s k g)) (R : Im P (RG s t k 0)) (hr : r = rF s k 7) (hN : rF t k 7 = rF s k 7 + 1) (h0 : tr t k 0 r = 41) (h1 : tr t k 1 r = x2) (h2 : tr t k 2 r = x3) (h3 : tr t k 3 r = 0) (h5 : tr t k 5 r = 0) (sd : Im P (0 < rF s k 7 ∧ (0 ≤ b ∧ b ≤ 9000) ∧ (-1 ≤ d ∧ d ≤ 21) ∧ rF s k 12 ≤ rF t k 12 ∧ (x2 = 0 ∧ x3 = 0) ∧ (True))) : ∃ g', Im P (GS0 t k g' ∧ GK g g' (rF s k 7) (rF t k 7) 0 ∧ OP t k g' r 41 d b (-1) b 0 ∧ g' 6 r = 0) := by
  refine imx g (fun hp => ?_)
  obtain ⟨q1, q2, q3, q4, q5, q6⟩ := sd hp
  subst hr
  have hs : gS (tr t k) (rF t k 12) (gnw g (rF s k 7) 41 b d) (rF s k 7) := by
    unfold gS; simp only [gnw_N, h0, h1, h2, h3]
    refine ⟨by simp, by simp; omega, by simp; omega, by simp; omega, by simp, by simp; omega, by simp; omega, by simp, by simp, by simp, by simp, by simp; try omega, ?_, ?_, by simp, by simp, by simp⟩ <;> first | (intro _; omega) | simp
  have A := GI.new (nm := rF t k 12) (K := 41) (b := b) (d := d) (GI.mv (t' := tr s k) (G hp) (fun _ _ _ _ _ => rfl) rfl q4) q1 (fun f i hf _ hi => RG.f hk (R hp) hf hi (Or.inr (Or.inl rfl))) h5 (fun f hf => by
    have hb := tb_ok hf
    have : f = 1 ∨ f = 2 ∨ f = 3 := by omega
    rcases this with rfl | rfl | rfl
    · first | exact absurd hf (by decide) | (rw [h1]; omega)
    · first | exact absurd hf (by decide) | (rw [h2]; omega)
    · first | exact absurd hf (by decide) | (rw [h3]; omega)) hs
  refine ⟨gnw g (rF s k 7) 41 b d, ?_, ?_, ?_, ?_⟩
  · unfold GS0; rw [hN]; exact A.1
  · rw [hN]; exact A.2.1
  · unfold OP; rw [hN]; exact A.2.2
  · rw [gnw_N]; simp
theorem EVo_41 {P : Prop} {s t : rS} {k S : Nat} {g : Nat → Int → Int} {r v x3 n0 l h d' : Int} (b d : Int) (hk : rgk k) (G : Im P (GS0 s k g)) (V : Im P (NR s k g S v n0 l h d')) (hso : ∀ q, so S q → so 17 q) (R : Im P (RG s t k 0)) (hr : r = rF s k 7) (hN : rF t k 7 = rF s k 7 + 1) (h0 : tr t k 0 r = 41) (h1 : tr t k 1 r = v) (h2 : tr t k 2 r = x3) (h3 : tr t k 3 r = 0) (h5 : tr t k 5 r = 0) (sd : Im P (0 < rF s k 7 ∧ (0 ≤ b ∧ b ≤ 9000) ∧ (-1 ≤ d ∧ d ≤ 21) ∧ rF s k 12 ≤ rF t k 12 ∧ (x3 = 0) ∧ (b ≤ l ∧ 0 ≤ l) ∧ d + 0 ≤ d'))   : ∃ g', Im P (GS0 t k g' ∧ (∀ j, j ≠ 3 → j ≠ 5 → j ≠ 8 → g' j v = g j v) ∧ KV g g' (rF s k 7) (rF t k 7) v ∧ OP t k g' r 41 d b h h 0 ∧ LI t k g' r 1 41 v ∧ (g 2 v ≤ 9000 ∧ g 3 v = 0) ∧ g' 6 r = 0) := by
  refine imx g (fun hp => ?_)
  obtain ⟨q1, q2, q3, q4, q5, q6, q7⟩ := sd hp
  subst hr
  have hs : gS (udt (tr t k) 1 (rF s k 7) 0) (rF t k 12) (gnw g (rF s k 7) 41 b d) (rF s k 7) := by
    have e : ∀ f, f ≠ 1 → udt (tr t k) 1 (rF s k 7) 0 f (rF s k 7) = tr t k f (rF s k 7) := fun f hf => udt_ne (Or.inl hf)
    unfold gS; simp only [gnw_N, e 0 (by decide), e 2 (by decide), e 3 (by decide), e 4 (by decide), h0, h2, h3]
    refine ⟨by simp, by simp; omega, by simp; omega, by simp; omega, by simp, by simp; omega, by simp; omega, by simp, by simp, by simp, by simp, by simp; try omega, by simp, by simp, by simp, by simp, by simp⟩
  have V' := V hp
  obtain ⟨g', a1, a2, a3, a4, a5, a6⟩ := GI.newV (K := 41) (b := b) (d := d) (nm := rF t k 12) (GI.mv (t' := tr s k) (G hp) (fun _ _ _ _ _ => rfl) rfl q4) (V hp) q1 (fun f i hf _ hi => RG.f hk (R hp) hf hi (Or.inr (Or.inl rfl))) h5 h1 (fun f hf1 hf => by
    have hb := tb_ok hf
    have : f = 2 ∨ f = 3 := by omega
    rcases this with rfl | rfl
    · first | exact absurd hf (by decide) | (rw [h2]; omega)
    · first | exact absurd hf (by decide) | (rw [h3]; omega)) hs (by decide) hso q6.1 q6.2 q7 (by decide)
  have v1 := V'.2.2.2.1
  have v2 := V'.2.2.2.2.2.2.1
  have v3 := V'.2.2.2.2.2.2.2.1
  refine ⟨g', ?_, a6, ?_, ?_, ?_, ⟨by omega, v1⟩, ?_⟩
  · unfold GS0; rw [hN]; exact a1
  · rw [hN]; exact a2
  · unfold OP; rw [hN]; exact a3
  · unfold LI; rw [hN]; exact a4
  · exact a5 rfl
theorem ECo_41 {P : Prop} {s : rS} {k : Nat} {g : Nat → Int → Int} {it d lo x y e : Int} (b : Int) (G : Im P (GS0 s k g)) (O : Im P (OP s k g it 41 d lo x y e)) (sd : Im P (x ≤ b ∧ y ≤ b ∧ b ≤ 9000)) : ∃ g', Im P (GS0 s k g' ∧ NR s k g' 1 it it lo b d ∧ KC g g' it) := by
  refine imx g (fun hp => ?_)
  have q := sd hp
  have o' := O hp
  obtain ⟨g', a1, a2, a3, a4⟩ := GI.close (b := b) (S := 1) (G hp) o' ⟨q.1, q.2.1, by omega⟩ (by show (((41 : Nat) : Int) = 41); omega) (fun h => absurd h (by decide)) (fun h => absurd h (by decide))
  exact ⟨g', a1, a2, o'.2.2.2.1, fun j m hj => by
    by_cases e : m = it
    · subst e; exact a4 j (by omega)
    · exact a3 j m e⟩
theorem ENo_30 {P : Prop} {s t : rS} {k : Nat} {g : Nat → Int → Int} {r x2 x3 : Int} (b d : Int) (hk : rgk k) (G : Im P (GS0 s k g)) (R : Im P (RG s t k 0)) (hr : r = rF s k 7) (hN : rF t k 7 = rF s k 7 + 1) (h0 : tr t k 0 r = 30) (h1 : tr t k 1 r = x2) (h2 : tr t k 2 r = x3) (h5 : tr t k 5 r = 0) (sd : Im P (0 < rF s k 7 ∧ (0 ≤ b ∧ b ≤ 9000) ∧ (-1 ≤ d ∧ d ≤ 21) ∧ rF s k 12 ≤ rF t k 12 ∧ (True) ∧ (0 ≤ x2 ∧ 0 ≤ x3 ∧ x3 ≤ 4000 ∧ x2 + x3 ≤ 60000))) : ∃ g', Im P (GS0 t k g' ∧ GK g g' (rF s k 7) (rF t k 7) 0 ∧ OP t k g' r 30 d b (-1) b 0 ∧ g' 6 r = 0) := by
  refine imx g (fun hp => ?_)
  obtain ⟨q1, q2, q3, q4, q5, q6⟩ := sd hp
  subst hr
  have hs : gS (tr t k) (rF t k 12) (gnw g (rF s k 7) 30 b d) (rF s k 7) := by
    unfold gS; simp only [gnw_N, h0, h1, h2]
    refine ⟨by simp, by simp; omega, by simp; omega, by simp; omega, by simp, by simp; omega, by simp; omega, by simp, by simp, by simp, by simp, by simp; try omega, ?_, ?_, by simp, by simp, by simp⟩ <;> first | (intro _; omega) | simp
  have A := GI.new (nm := rF t k 12) (K := 30) (b := b) (d := d) (GI.mv (t' := tr s k) (G hp) (fun _ _ _ _ _ => rfl) rfl q4) q1 (fun f i hf _ hi => RG.f hk (R hp) hf hi (Or.inr (Or.inl rfl))) h5 (fun f hf => by
    have hb := tb_ok hf
    have : f = 1 ∨ f = 2 ∨ f = 3 := by omega
    rcases this with rfl | rfl | rfl
    · first | exact absurd hf (by decide) | (rw [h1]; omega)
    · first | exact absurd hf (by decide) | (rw [h2]; omega)
    · first | exact absurd hf (by decide) | skip) hs
  refine ⟨gnw g (rF s k 7) 30 b d, ?_, ?_, ?_, ?_⟩
  · unfold GS0; rw [hN]; exact A.1
  · rw [hN]; exact A.2.1
  · unfold OP; rw [hN]; exact A.2.2
  · rw [gnw_N]; simp
theorem ECo_30 {P : Prop} {s : rS} {k : Nat} {g : Nat → Int → Int} {it d lo x y e : Int} (b : Int) (G : Im P (GS0 s k g)) (O : Im P (OP s k g it 30 d lo x y e)) (sd : Im P (x ≤ b ∧ y ≤ b ∧ b ≤ 9000)) : ∃ g', Im P (GS0 s k g' ∧ NR s k g' 2 it it lo b d ∧ KC g g' it) := by
  refine imx g (fun hp => ?_)
  have q := sd hp
  have o' := O hp
  obtain ⟨g', a1, a2, a3, a4⟩ := GI.close (b := b) (S := 2) (G hp) o' ⟨q.1, q.2.1, by omega⟩ (by show (30 ≤ ((30 : Nat) : Int) ∧ ((30 : Nat) : Int) ≤ 39); omega) (fun h => absurd h (by decide)) (fun h => absurd h (by decide))
  exact ⟨g', a1, a2, o'.2.2.2.1, fun j m hj => by
    by_cases e : m = it
    · subst e; exact a4 j (by omega)
    · exact a3 j m e⟩
theorem ENo_31 {P : Prop} {s t : rS} {k : Nat} {g : Nat → Int → Int} {r x2 x3 : Int} (b d : Int) (hk : rgk k) (G : Im P (GS0 s k g)) (R : Im P (RG s t k 0)) (hr : r = rF s k 7) (hN : rF t k 7 = rF s k 7 + 1) (h0 : tr t k 0 r = 31) (h1 : tr t k 1 r = x2) (h2 : tr t k 2 r = x3) (h5 : tr t k 5 r = 0) (sd : Im P (0 < rF s k 7 ∧ (0 ≤ b ∧ b ≤ 9000) ∧ (-1 ≤ d ∧ d ≤ 21) ∧ rF s k 12 ≤ rF t k 12 ∧ (True) ∧ (True))) : ∃ g', Im P (GS0 t k g' ∧ GK g g' (rF s k 7) (rF t k 7) 0 ∧ OP t k g' r 31 d b (-1) b 0 ∧ g' 6 r = 0) := by
  refine imx g (fun hp => ?_)
  obtain ⟨q1, q2, q3, q4, q5, q6⟩ := sd hp
  subst hr
  have hs : gS (tr t k) (rF t k 12) (gnw g (rF s k 7) 31 b d) (rF s k 7) := by
    unfold gS; simp only [gnw_N, h0, h1, h2]
    refine ⟨by simp, by simp; omega, by simp; omega, by simp; omega, by simp, by simp; omega, by simp; omega, by simp, by simp, by simp, by simp, by simp; try omega, ?_, ?_, by simp, by simp, by simp⟩ <;> first | (intro _; omega) | simp
  have A := GI.new (nm := rF t k 12) (K := 31) (b := b) (d := d) (GI.mv (t' := tr s k) (G hp) (fun _ _ _ _ _ => rfl) rfl q4) q1 (fun f i hf _ hi => RG.f hk (R hp) hf hi (Or.inr (Or.inl rfl))) h5 (fun f hf => by
    have hb := tb_ok hf
    have : f = 1 ∨ f = 2 ∨ f = 3 := by omega
    rcases this with rfl | rfl | rfl
    · first | exact absurd hf (by decide) | (rw [h1]; omega)
    · first | exact absurd hf (by decide) | (rw [h2]; omega)
    · first | exact absurd hf (by decide) | skip) hs
  refine ⟨gnw g (rF s k 7) 31 b d, ?_, ?_, ?_, ?_⟩
  · unfold GS0; rw [hN]; exact A.1
  · rw [hN]; exact A.2.1
  · unfold OP; rw [hN]; exact A.2.2
  · rw [gnw_N]; simp
theorem ECo_31 {P : Prop} {s : rS} {k : Nat} {g : Nat → Int → Int} {it d lo x y e : Int} (b : Int) (G : Im P (GS0 s k g)) (O : Im P (OP s k g it 31 d lo x y e)) (sd : Im P (x ≤ b ∧ y ≤ b ∧ b ≤ 9000)) : ∃ g', Im P (GS0 s k g' ∧ NR s k g' 2 it it lo b d ∧ KC g g' it) := by
  refine imx g (fun hp => ?_)
  have q := sd hp
  have o' := O hp
  obtain ⟨g', a1, a2, a3, a4⟩ := GI.close (b := b) (S := 2) (G hp) o' ⟨q.1, q.2.1, by omega⟩ (by show (30 ≤ ((31 : Nat) : Int) ∧ ((31 : Nat) : Int) ≤ 39); omega) (fun h => absurd h (by decide)) (fun h => absurd h (by decide))
  exact ⟨g', a1, a2, o'.2.2.2.1, fun j m hj => by
    by_cases e : m = it
    · subst e; exact a4 j (by omega)
    · exact a3 j m e⟩
theorem ENo_32 {P : Prop} {s t : rS} {k : Nat} {g : Nat → Int → Int} {r x2 x3 : Int} (b d : Int) (hk : rgk k) (G : Im P (GS0 s k g)) (R : Im P (RG s t k 0)) (hr : r = rF s k 7) (hN : rF t k 7 = rF s k 7 + 1) (h0 : tr t k 0 r = 32) (h1 : tr t k 1 r = x2) (h2 : tr t k 2 r = x3) (h5 : tr t k 5 r = 0) (sd : Im P (0 < rF s k 7 ∧ (0 ≤ b ∧ b ≤ 9000) ∧ (-1 ≤ d ∧ d ≤ 21) ∧ rF s k 12 ≤ rF t k 12 ∧ (True) ∧ (True))) : ∃ g', Im P (GS0 t k g' ∧ GK g g' (rF s k 7) (rF t k 7) 0 ∧ OP t k g' r 32 d b (-1) b 0 ∧ g' 6 r = 0) := by
  refine imx g (fun hp => ?_)
  obtain ⟨q1, q2, q3, q4, q5, q6⟩ := sd hp
  subst hr
  have hs : gS (tr t k) (rF t k 12) (gnw g (rF s k 7) 32 b d) (rF s k 7) := by
    unfold gS; simp only [gnw_N, h0, h1, h2]
    refine ⟨by simp, by simp; omega, by simp; omega, by simp; omega, by simp, by simp; omega, by simp; omega, by simp, by simp, by simp, by simp, by simp; try omega, ?_, ?_, by simp, by simp, by simp⟩ <;> first | (intro _; omega) | simp
  have A := GI.new (nm := rF t k 12) (K := 32) (b := b) (d := d) (GI.mv (t' := tr s k) (G hp) (fun _ _ _ _ _ => rfl) rfl q4) q1 (fun f i hf _ hi => RG.f hk (R hp) hf hi (Or.inr (Or.inl rfl))) h5 (fun f hf => by
    have hb := tb_ok hf
    have : f = 1 ∨ f = 2 ∨ f = 3 := by omega
    rcases this with rfl | rfl | rfl
    · first | exact absurd hf (by decide) | (rw [h1]; omega)
    · first | exact absurd hf (by decide) | (rw [h2]; omega)
    · first | exact absurd hf (by decide) | skip) hs
  refine ⟨gnw g (rF s k 7) 32 b d, ?_, ?_, ?_, ?_⟩
  · unfold GS0; rw [hN]; exact A.1
  · rw [hN]; exact A.2.1
  · unfold OP; rw [hN]; exact A.2.2
  · rw [gnw_N]; simp
theorem ECo_32 {P : Prop} {s : rS} {k : Nat} {g : Nat → Int → Int} {it d lo x y e : Int} (b : Int) (G : Im P (GS0 s k g)) (O : Im P (OP s k g it 32 d lo x y e)) (sd : Im P (x ≤ b ∧ y ≤ b ∧ b ≤ 9000)) : ∃ g', Im P (GS0 s k g' ∧ NR s k g' 2 it it lo b d ∧ KC g g' it) := by
  refine imx g (fun hp => ?_)
  have q := sd hp
  have o' := O hp
  obtain ⟨g', a1, a2, a3, a4⟩ := GI.close (b := b) (S := 2) (G hp) o' ⟨q.1, q.2.1, by omega⟩ (by show (30 ≤ ((32 : Nat) : Int) ∧ ((32 : Nat) : Int) ≤ 39); omega) (fun h => absurd h (by decide)) (fun h => absurd h (by decide))
  exact ⟨g', a1, a2, o'.2.2.2.1, fun j m hj => by
    by_cases e : m = it
    · subst e; exact a4 j (by omega)
    · exact a3 j m e⟩
theorem ENo_33 {P : Prop} {s t : rS} {k : Nat} {g : Nat → Int → Int} {r x2 x3 : Int} (b d : Int) (hk : rgk k) (G : Im P (GS0 s k g)) (R : Im P (RG s t k 0)) (hr : r = rF s k 7) (hN : rF t k 7 = rF s k 7 + 1) (h0 : tr t k 0 r = 33) (h1 : tr t k 1 r = x2) (h2 : tr t k 2 r = x3) (h3 : tr t k 3 r = 0) (h5 : tr t k 5 r = 0) (sd : Im P (0 < rF s k 7 ∧ (0 ≤ b ∧ b ≤ 9000) ∧ (-1 ≤ d ∧ d ≤ 21) ∧ rF s k 12 ≤ rF t k 12 ∧ (x2 = 0 ∧ x3 = 0) ∧ (True))) : ∃ g', Im P (GS0 t k g' ∧ GK g g' (rF s k 7) (rF t k 7) 0 ∧ OP t k g' r 33 d b (-1) b 0 ∧ g' 6 r = 0) := by
  refine imx g (fun hp => ?_)
  obtain ⟨q1, q2, q3, q4, q5, q6⟩ := sd hp
  subst hr
  have hs : gS (tr t k) (rF t k 12) (gnw g (rF s k 7) 33 b d) (rF s k 7) := by
    unfold gS; simp only [gnw_N, h0, h1, h2, h3]
    refine ⟨by simp, by simp; omega, by simp; omega, by simp; omega, by simp, by simp; omega, by simp; omega, by simp, by simp, by simp, by simp, by simp; try omega, ?_, ?_, by simp, by simp, by simp⟩ <;> first | (intro _; omega) | simp
  have A := GI.new (nm := rF t k 12) (K := 33) (b := b) (d := d) (GI.mv (t' := tr s k) (G hp) (fun _ _ _ _ _ => rfl) rfl q4) q1 (fun f i hf _ hi => RG.f hk (R hp) hf hi (Or.inr (Or.inl rfl))) h5 (fun f hf => by
    have hb := tb_ok hf
    have : f = 1 ∨ f = 2 ∨ f = 3 := by omega
    rcases this with rfl | rfl | rfl
    · first | exact absurd hf (by decide) | (rw [h1]; omega)
    · first | exact absurd hf (by decide) | (rw [h2]; omega)
    · first | exact absurd hf (by decide) | (rw [h3]; omega)) hs
  refine ⟨gnw g (rF s k 7) 33 b d, ?_, ?_, ?_, ?_⟩
  · unfold GS0; rw [hN]; exact A.1
  · rw [hN]; exact A.2.1
  · unfold OP; rw [hN]; exact A.2.2
  · rw [gnw_N]; simp
theorem ECo_33 {P : Prop} {s : rS} {k : Nat} {g : Nat → Int → Int} {it d lo x y e : Int} (b : Int) (G : Im P (GS0 s k g)) (O : Im P (OP s k g it 33 d lo x y e)) (sd : Im P (x ≤ b ∧ y ≤ b ∧ b ≤ 9000 ∧ (tr s k 3 it = g 6 it ∧ tr s k 3 it ≤ 12))) : ∃ g', Im P (GS0 s k g' ∧ NR s k g' 10 it it lo b d ∧ KC g g' it) := by
  refine imx g (fun hp => ?_)
  have q := sd hp
  have o' := O hp
  obtain ⟨g', a1, a2, a3, a4⟩ := GI.close (b := b) (S := 10) (G hp) o' ⟨q.1, q.2.1, by omega⟩ (by show (((33 : Nat) : Int) = 33); omega) (fun _ => q.2.2.2) (fun h => absurd h (by decide))
  exact ⟨g', a1, a2, o'.2.2.2.1, fun j m hj => by
    by_cases e : m = it
    · subst e; exact a4 j (by omega)
    · exact a3 j m e⟩
theorem ENo_34 {P : Prop} {s t : rS} {k : Nat} {g : Nat → Int → Int} {r x2 x3 : Int} (b d : Int) (hk : rgk k) (G : Im P (GS0 s k g)) (R : Im P (RG s t k 0)) (hr : r = rF s k 7) (hN : rF t k 7 = rF s k 7 + 1) (h0 : tr t k 0 r = 34) (h1 : tr t k 1 r = x2) (h2 : tr t k 2 r = x3) (h5 : tr t k 5 r = 0) (sd : Im P (0 < rF s k 7 ∧ (0 ≤ b ∧ b ≤ 9000) ∧ (-1 ≤ d ∧ d ≤ 21) ∧ rF s k 12 ≤ rF t k 12 ∧ (x2 = 0) ∧ (True))) : ∃ g', Im P (GS0 t k g' ∧ GK g g' (rF s k 7) (rF t k 7) 0 ∧ OP t k g' r 34 d b (-1) b 0 ∧ g' 6 r = 0) := by
  refine imx g (fun hp => ?_)
  obtain ⟨q1, q2, q3, q4, q5, q6⟩ := sd hp
  subst hr
  have hs : gS (tr t k) (rF t k 12) (gnw g (rF s k 7) 34 b d) (rF s k 7) := by
    unfold gS; simp only [gnw_N, h0, h1, h2]
    refine ⟨by simp, by simp; omega, by simp; omega, by simp; omega, by simp, by simp; omega, by simp; omega, by simp, by simp, by simp, by simp, by simp; try omega, ?_, ?_, by simp, by simp, by simp⟩ <;> first | (intro _; omega) | simp
  have A := GI.new (nm := rF t k 12) (K := 34) (b := b) (d := d) (GI.mv (t' := tr s k) (G hp) (fun _ _ _ _ _ => rfl) rfl q4) q1 (fun f i hf _ hi => RG.f hk (R hp) hf hi (Or.inr (Or.inl rfl))) h5 (fun f hf => by
    have hb := tb_ok hf
    have : f = 1 ∨ f = 2 ∨ f = 3 := by omega
    rcases this with rfl | rfl | rfl
    · first | exact absurd hf (by decide) | (rw [h1]; omega)
    · first | exact absurd hf (by decide) | (rw [h2]; omega)
    · first | exact absurd hf (by decide) | skip) hs
  refine ⟨gnw g (rF s k 7) 34 b d, ?_, ?_, ?_, ?_⟩
  · unfold GS0; rw [hN]; exact A.1
  · rw [hN]; exact A.2.1
  · unfold OP; rw [hN]; exact A.2.2
  · rw [gnw_N]; simp
theorem ECo_34 {P : Prop} {s : rS} {k : Nat} {g : Nat → Int → Int} {it d lo x y e : Int} (b : Int) (G : Im P (GS0 s k g)) (O : Im P (OP s k g it 34 d lo x y e)) (sd : Im P (x ≤ b ∧ y ≤ b ∧ b ≤ 9000)) : ∃ g', Im P (GS0 s k g' ∧ NR s k g' 2 it it lo b d ∧ KC g g' it) := by
  refine imx g (fun hp => ?_)
  have q := sd hp
  have o' := O hp
  obtain ⟨g', a1, a2, a3, a4⟩ := GI.close (b := b) (S := 2) (G hp) o' ⟨q.1, q.2.1, by omega⟩ (by show (30 ≤ ((34 : Nat) : Int) ∧ ((34 : Nat) : Int) ≤ 39); omega) (fun h => absurd h (by decide)) (fun h => absurd h (by decide))
  exact ⟨g', a1, a2, o'.2.2.2.1, fun j m hj => by
    by_cases e : m = it
    · subst e; exact a4 j (by omega)
    · exact a3 j m e⟩
theorem ENo_35 {P : Prop} {s t : rS} {k : Nat} {g : Nat → Int → Int} {r x2 x3 : Int} (b d : Int) (hk : rgk k) (G : Im P (GS0 s k g)) (R : Im P (RG s t k 0)) (hr : r = rF s k 7) (hN : rF t k 7 = rF s k 7 + 1) (h0 : tr t k 0 r = 35) (h1 : tr t k 1 r = x2) (h2 : tr t k 2 r = x3) (h5 : tr t k 5 r = 0) (sd : Im P (0 < rF s k 7 ∧ (0 ≤ b ∧ b ≤ 9000) ∧ (-1 ≤ d ∧ d ≤ 21) ∧ rF s k 12 ≤ rF t k 12 ∧ (True) ∧ (True))) : ∃ g', Im P (GS0 t k g' ∧ GK g g' (rF s k 7) (rF t k 7) 0 ∧ OP t k g' r 35 d b (-1) b 0 ∧ g' 6 r = 0) := by
  refine imx g (fun hp => ?_)
  obtain ⟨q1, q2, q3, q4, q5, q6⟩ := sd hp
  subst hr
  have hs : gS (tr t k) (rF t k 12) (gnw g (rF s k 7) 35 b d) (rF s k 7) := by
    unfold gS; simp only [gnw_N, h0, h1, h2]
    refine ⟨by simp, by simp; omega, by simp; omega, by simp; omega, by simp, by simp; omega, by simp; omega, by simp, by simp, by simp, by simp, by simp; try omega, ?_, ?_, by simp, by simp, by simp⟩ <;> first | (intro _; omega) | simp
  have A := GI.new (nm := rF t k 12) (K := 35) (b := b) (d := d) (GI.mv (t' := tr s k) (G hp) (fun _ _ _ _ _ => rfl) rfl q4) q1 (fun f i hf _ hi => RG.f hk (R hp) hf hi (Or.inr (Or.inl rfl))) h5 (fun f hf => by
    have hb := tb_ok hf
    have : f = 1 ∨ f = 2 ∨ f = 3 := by omega
    rcases this with rfl | rfl | rfl
    · first | exact absurd hf (by decide) | (rw [h1]; omega)
    · first | exact absurd hf (by decide) | (rw [h2]; omega)
    · first | exact absurd hf (by decide) | skip) hs
  refine ⟨gnw g (rF s k 7) 35 b d, ?_, ?_, ?_, ?_⟩
  · unfold GS0; rw [hN]; exact A.1
  · rw [hN]; exact A.2.1
  · unfold OP; rw [hN]; exact A.2.2
  · rw [gnw_N]; simp
theorem ECo_35 {P : Prop} {s : rS} {k : Nat} {g : Nat → Int → Int} {it d lo x y e : Int} (b : Int) (G : Im P (GS0 s k g)) (O : Im P (OP s k g it 35 d lo x y e)) (sd : Im P (x ≤ b ∧ y ≤ b ∧ b ≤ 9000)) : ∃ g', Im P (GS0 s k g' ∧ NR s k g' 2 it it lo b d ∧ KC g g' it) := by
  refine imx g (fun hp => ?_)
  have q := sd hp
  have o' := O hp
  obtain ⟨g', a1, a2, a3, a4⟩ := GI.close (b := b) (S := 2) (G hp) o' ⟨q.1, q.2.1, by omega⟩ (by show (30 ≤ ((35 : Nat) : Int) ∧ ((35 : Nat) : Int) ≤ 39); omega) (fun h => absurd h (by decide)) (fun h => absurd h (by decide))
  exact ⟨g', a1, a2, o'.2.2.2.1, fun j m hj => by
    by_cases e : m = it
    · subst e; exact a4 j (by omega)
    · exact a3 j m e⟩
theorem ENo_36 {P : Prop} {s t : rS} {k : Nat} {g : Nat → Int → Int} {r x2 x3 : Int} (b d : Int) (hk : rgk k) (G : Im P (GS0 s k g)) (R : Im P (RG s t k 0)) (hr : r = rF s k 7) (hN : rF t k 7 = rF s k 7 + 1) (h0 : tr t k 0 r = 36) (h1 : tr t k 1 r = x2) (h2 : tr t k 2 r = x3) (h5 : tr t k 5 r = 0) (sd : Im P (0 < rF s k 7 ∧ (0 ≤ b ∧ b ≤ 9000) ∧ (-1 ≤ d ∧ d ≤ 21) ∧ rF s k 12 ≤ rF t k 12 ∧ (x3 = 0) ∧ (True))) : ∃ g', Im P (GS0 t k g' ∧ GK g g' (rF s k 7) (rF t k 7) 0 ∧ OP t k g' r 36 d b (-1) b 0 ∧ g' 6 r = 0) := by
  refine imx g (fun hp => ?_)
  obtain ⟨q1, q2, q3, q4, q5, q6⟩ := sd hp
  subst hr
  have hs : gS (tr t k) (rF t k 12) (gnw g (rF s k 7) 36 b d) (rF s k 7) := by
    unfold gS; simp only [gnw_N, h0, h1, h2]
    refine ⟨by simp, by simp; omega, by simp; omega, by simp; omega, by simp, by simp; omega, by simp; omega, by simp, by simp, by simp, by simp, by simp; try omega, ?_, ?_, by simp, by simp, by simp⟩ <;> first | (intro _; omega) | simp
  have A := GI.new (nm := rF t k 12) (K := 36) (b := b) (d := d) (GI.mv (t' := tr s k) (G hp) (fun _ _ _ _ _ => rfl) rfl q4) q1 (fun f i hf _ hi => RG.f hk (R hp) hf hi (Or.inr (Or.inl rfl))) h5 (fun f hf => by
    have hb := tb_ok hf
    have : f = 1 ∨ f = 2 ∨ f = 3 := by omega
    rcases this with rfl | rfl | rfl
    · first | exact absurd hf (by decide) | (rw [h1]; omega)
    · first | exact absurd hf (by decide) | (rw [h2]; omega)
    · first | exact absurd hf (by decide) | skip) hs
  refine ⟨gnw g (rF s k 7) 36 b d, ?_, ?_, ?_, ?_⟩
  · unfold GS0; rw [hN]; exact A.1
  · rw [hN]; exact A.2.1
  · unfold OP; rw [hN]; exact A.2.2
  · rw [gnw_N]; simp
theorem ECo_36 {P : Prop} {s : rS} {k : Nat} {g : Nat → Int → Int} {it d lo x y e : Int} (b : Int) (G : Im P (GS0 s k g)) (O : Im P (OP s k g it 36 d lo x y e)) (sd : Im P (x ≤ b ∧ y ≤ b ∧ b ≤ 9000)) : ∃ g', Im P (GS0 s k g' ∧ NR s k g' 2 it it lo b d ∧ KC g g' it) := by
  refine imx g (fun hp => ?_)
  have q := sd hp
  have o' := O hp
  obtain ⟨g', a1, a2, a3, a4⟩ := GI.close (b := b) (S := 2) (G hp) o' ⟨q.1, q.2.1, by omega⟩ (by show (30 ≤ ((36 : Nat) : Int) ∧ ((36 : Nat) : Int) ≤ 39); omega) (fun h => absurd h (by decide)) (fun h => absurd h (by decide))
  exact ⟨g', a1, a2, o'.2.2.2.1, fun j m hj => by
    by_cases e : m = it
    · subst e; exact a4 j (by omega)
    · exact a3 j m e⟩
theorem ENo_37 {P : Prop} {s t : rS} {k : Nat} {g : Nat → Int → Int} {r x2 x3 : Int} (b d : Int) (hk : rgk k) (G : Im P (GS0 s k g)) (R : Im P (RG s t k 0)) (hr : r = rF s k 7) (hN : rF t k 7 = rF s k 7 + 1) (h0 : tr t k 0 r = 37) (h1 : tr t k 1 r = x2) (h2 : tr t k 2 r = x3) (h5 : tr t k 5 r = 0) (sd : Im P (0 < rF s k 7 ∧ (0 ≤ b ∧ b ≤ 9000) ∧ (-1 ≤ d ∧ d ≤ 21) ∧ rF s k 12 ≤ rF t k 12 ∧ (x2 = 0 ∧ x3 = 0) ∧ (True))) : ∃ g', Im P (GS0 t k g' ∧ GK g g' (rF s k 7) (rF t k 7) 0 ∧ OP t k g' r 37 d b (-1) b 0 ∧ g' 6 r = 0) := by
  refine imx g (fun hp => ?_)
  obtain ⟨q1, q2, q3, q4, q5, q6⟩ := sd hp
  subst hr
  have hs : gS (tr t k) (rF t k 12) (gnw g (rF s k 7) 37 b d) (rF s k 7) := by
    unfold gS; simp only [gnw_N, h0, h1, h2]
    refine ⟨by simp, by simp; omega, by simp; omega, by simp; omega, by simp, by simp; omega, by simp; omega, by simp, by simp, by simp, by simp, by simp; try omega, ?_, ?_, by simp, by simp, by simp⟩ <;> first | (intro _; omega) | simp
  have A := GI.new (nm := rF t k 12) (K := 37) (b := b) (d := d) (GI.mv (t' := tr s k) (G hp) (fun _ _ _ _ _ => rfl) rfl q4) q1 (fun f i hf _ hi => RG.f hk (R hp) hf hi (Or.inr (Or.inl rfl))) h5 (fun f hf => by
    have hb := tb_ok hf
    have : f = 1 ∨ f = 2 ∨ f = 3 := by omega
    rcases this with rfl | rfl | rfl
    · first | exact absurd hf (by decide) | (rw [h1]; omega)
    · first | exact absurd hf (by decide) | (rw [h2]; omega)
    · first | exact absurd hf (by decide) | skip) hs
  refine ⟨gnw g (rF s k 7) 37 b d, ?_, ?_, ?_, ?_⟩
  · unfold GS0; rw [hN]; exact A.1
  · rw [hN]; exact A.2.1
  · unfold OP; rw [hN]; exact A.2.2
  · rw [gnw_N]; simp
theorem EVo_37 {P : Prop} {s t : rS} {k S : Nat} {g : Nat → Int → Int} {r v x3 n0 l h d' : Int} (b d : Int) (hk : rgk k) (G : Im P (GS0 s k g)) (V : Im P (NR s k g S v n0 l h d')) (hso : ∀ q, so S q → so 1 q) (R : Im P (RG s t k 0)) (hr : r = rF s k 7) (hN : rF t k 7 = rF s k 7 + 1) (h0 : tr t k 0 r = 37) (h1 : tr t k 1 r = v) (h2 : tr t k 2 r = x3) (h5 : tr t k 5 r = 0) (sd : Im P (0 < rF s k 7 ∧ (0 ≤ b ∧ b ≤ 9000) ∧ (-1 ≤ d ∧ d ≤ 21) ∧ rF s k 12 ≤ rF t k 12 ∧ (x3 = 0) ∧ (b ≤ l ∧ 0 ≤ l) ∧ d + 1 ≤ d'))   : ∃ g', Im P (GS0 t k g' ∧ (∀ j, j ≠ 3 → j ≠ 5 → j ≠ 8 → g' j v = g j v) ∧ KV g g' (rF s k 7) (rF t k 7) v ∧ OP t k g' r 37 d b h h 0 ∧ LI t k g' r 1 37 v ∧ (g 2 v ≤ 9000 ∧ g 3 v = 0) ∧ g' 6 r = 0) := by
  refine imx g (fun hp => ?_)
  obtain ⟨q1, q2, q3, q4, q5, q6, q7⟩ := sd hp
  subst hr
  have hs : gS (udt (tr t k) 1 (rF s k 7) 0) (rF t k 12) (gnw g (rF s k 7) 37 b d) (rF s k 7) := by
    have e : ∀ f, f ≠ 1 → udt (tr t k) 1 (rF s k 7) 0 f (rF s k 7) = tr t k f (rF s k 7) := fun f hf => udt_ne (Or.inl hf)
    unfold gS; simp only [gnw_N, e 0 (by decide), e 2 (by decide), e 3 (by decide), e 4 (by decide), h0, h2]
    refine ⟨by simp, by simp; omega, by simp; omega, by simp; omega, by simp, by simp; omega, by simp; omega, by simp, by simp, by simp, by simp, by simp; try omega, by simp, by simp, by simp, by simp, by simp⟩
  have V' := V hp
  obtain ⟨g', a1, a2, a3, a4, a5, a6⟩ := GI.newV (K := 37) (b := b) (d := d) (nm := rF t k 12) (GI.mv (t' := tr s k) (G hp) (fun _ _ _ _ _ => rfl) rfl q4) (V hp) q1 (fun f i hf _ hi => RG.f hk (R hp) hf hi (Or.inr (Or.inl rfl))) h5 h1 (fun f hf1 hf => by
    have hb := tb_ok hf
    have : f = 2 ∨ f = 3 := by omega
    rcases this with rfl | rfl
    · first | exact absurd hf (by decide) | (rw [h2]; omega)
    · first | exact absurd hf (by decide) | skip) hs (by decide) hso q6.1 q6.2 q7 (by decide)
  have v1 := V'.2.2.2.1
  have v2 := V'.2.2.2.2.2.2.1
  have v3 := V'.2.2.2.2.2.2.2.1
  refine ⟨g', ?_, a6, ?_, ?_, ?_, ⟨by omega, v1⟩, ?_⟩
  · unfold GS0; rw [hN]; exact a1
  · rw [hN]; exact a2
  · unfold OP; rw [hN]; exact a3
  · unfold LI; rw [hN]; exact a4
  · exact a5 rfl
theorem ECo_37 {P : Prop} {s : rS} {k : Nat} {g : Nat → Int → Int} {it d lo x y e : Int} (b : Int) (G : Im P (GS0 s k g)) (O : Im P (OP s k g it 37 d lo x y e)) (sd : Im P (x ≤ b ∧ y ≤ b ∧ b ≤ 9000)) : ∃ g', Im P (GS0 s k g' ∧ NR s k g' 2 it it lo b d ∧ KC g g' it) := by
  refine imx g (fun hp => ?_)
  have q := sd hp
  have o' := O hp
  obtain ⟨g', a1, a2, a3, a4⟩ := GI.close (b := b) (S := 2) (G hp) o' ⟨q.1, q.2.1, by omega⟩ (by show (30 ≤ ((37 : Nat) : Int) ∧ ((37 : Nat) : Int) ≤ 39); omega) (fun h => absurd h (by decide)) (fun h => absurd h (by decide))
  exact ⟨g', a1, a2, o'.2.2.2.1, fun j m hj => by
    by_cases e : m = it
    · subst e; exact a4 j (by omega)
    · exact a3 j m e⟩
theorem ENo_38 {P : Prop} {s t : rS} {k : Nat} {g : Nat → Int → Int} {r x2 x3 : Int} (b d : Int) (hk : rgk k) (G : Im P (GS0 s k g)) (R : Im P (RG s t k 0)) (hr : r = rF s k 7) (hN : rF t k 7 = rF s k 7 + 1) (h0 : tr t k 0 r = 38) (h1 : tr t k 1 r = x2) (h2 : tr t k 2 r = x3) (h5 : tr t k 5 r = 0) (sd : Im P (0 < rF s k 7 ∧ (0 ≤ b ∧ b ≤ 9000) ∧ (-1 ≤ d ∧ d ≤ 21) ∧ rF s k 12 ≤ rF t k 12 ∧ (x3 = 0) ∧ (True))) : ∃ g', Im P (GS0 t k g' ∧ GK g g' (rF s k 7) (rF t k 7) 0 ∧ OP t k g' r 38 d b (-1) b 0 ∧ g' 6 r = 0) := by
  refine imx g (fun hp => ?_)
  obtain ⟨q1, q2, q3, q4, q5, q6⟩ := sd hp
  subst hr
  have hs : gS (tr t k) (rF t k 12) (gnw g (rF s k 7) 38 b d) (rF s k 7) := by
    unfold gS; simp only [gnw_N, h0, h1, h2]
    refine ⟨by simp, by simp; omega, by simp; omega, by simp; omega, by simp, by simp; omega, by simp; omega, by simp, by simp, by simp, by simp, by simp; try omega, ?_, ?_, by simp, by simp, by simp⟩ <;> first | (intro _; omega) | simp
  have A := GI.new (nm := rF t k 12) (K := 38) (b := b) (d := d) (GI.mv (t' := tr s k) (G hp) (fun _ _ _ _ _ => rfl) rfl q4) q1 (fun f i hf _ hi => RG.f hk (R hp) hf hi (Or.inr (Or.inl rfl))) h5 (fun f hf => by
    have hb := tb_ok hf
    have : f = 1 ∨ f = 2 ∨ f = 3 := by omega
    rcases this with rfl | rfl | rfl
    · first | exact absurd hf (by decide) | (rw [h1]; omega)
    · first | exact absurd hf (by decide) | (rw [h2]; omega)
    · first | exact absurd hf (by decide) | skip) hs
  refine ⟨gnw g (rF s k 7) 38 b d, ?_, ?_, ?_, ?_⟩
  · unfold GS0; rw [hN]; exact A.1
  · rw [hN]; exact A.2.1
  · unfold OP; rw [hN]; exact A.2.2
  · rw [gnw_N]; simp
theorem ECo_38 {P : Prop} {s : rS} {k : Nat} {g : Nat → Int → Int} {it d lo x y e : Int} (b : Int) (G : Im P (GS0 s k g)) (O : Im P (OP s k g it 38 d lo x y e)) (sd : Im P (x ≤ b ∧ y ≤ b ∧ b ≤ 9000)) : ∃ g', Im P (GS0 s k g' ∧ NR s k g' 2 it it lo b d ∧ KC g g' it) := by
  refine imx g (fun hp => ?_)
  have q := sd hp
  have o' := O hp
  obtain ⟨g', a1, a2, a3, a4⟩ := GI.close (b := b) (S := 2) (G hp) o' ⟨q.1, q.2.1, by omega⟩ (by show (30 ≤ ((38 : Nat) : Int) ∧ ((38 : Nat) : Int) ≤ 39); omega) (fun h => absurd h (by decide)) (fun h => absurd h (by decide))
  exact ⟨g', a1, a2, o'.2.2.2.1, fun j m hj => by
    by_cases e : m = it
    · subst e; exact a4 j (by omega)
    · exact a3 j m e⟩
theorem ENo_39 {P : Prop} {s t : rS} {k : Nat} {g : Nat → Int → Int} {r x2 x3 : Int} (b d : Int) (hk : rgk k) (G : Im P (GS0 s k g)) (R : Im P (RG s t k 0)) (hr : r = rF s k 7) (hN : rF t k 7 = rF s k 7 + 1) (h0 : tr t k 0 r = 39) (h1 : tr t k 1 r = x2) (h2 : tr t k 2 r = x3) (h5 : tr t k 5 r = 0) (sd : Im P (0 < rF s k 7 ∧ (0 ≤ b ∧ b ≤ 9000) ∧ (-1 ≤ d ∧ d ≤ 21) ∧ rF s k 12 ≤ rF t k 12 ∧ (x2 = 0) ∧ (True))) : ∃ g', Im P (GS0 t k g' ∧ GK g g' (rF s k 7) (rF t k 7) 0 ∧ OP t k g' r 39 d b (-1) b 0 ∧ g' 6 r = 0) := by
  refine imx g (fun hp => ?_)
  obtain ⟨q1, q2, q3, q4, q5, q6⟩ := sd hp
  subst hr
  have hs : gS (tr t k) (rF t k 12) (gnw g (rF s k 7) 39 b d) (rF s k 7) := by
    unfold gS; simp only [gnw_N, h0, h1, h2]
    refine ⟨by simp, by simp; omega, by simp; omega, by simp; omega, by simp, by simp; omega, by simp; omega, by simp, by simp, by simp, by simp, by simp; try omega, ?_, ?_, by simp, by simp, by simp⟩ <;> first | (intro _; omega) | simp
  have A := GI.new (nm := rF t k 12) (K := 39) (b := b) (d := d) (GI.mv (t' := tr s k) (G hp) (fun _ _ _ _ _ => rfl) rfl q4) q1 (fun f i hf _ hi => RG.f hk (R hp) hf hi (Or.inr (Or.inl rfl))) h5 (fun f hf => by
    have hb := tb_ok hf
    have : f = 1 ∨ f = 2 ∨ f = 3 := by omega
    rcases this with rfl | rfl | rfl
    · first | exact absurd hf (by decide) | (rw [h1]; omega)
    · first | exact absurd hf (by decide) | (rw [h2]; omega)
    · first | exact absurd hf (by decide) | skip) hs
  refine ⟨gnw g (rF s k 7) 39 b d, ?_, ?_, ?_, ?_⟩
  · unfold GS0; rw [hN]; exact A.1
  · rw [hN]; exact A.2.1
  · unfold OP; rw [hN]; exact A.2.2
  · rw [gnw_N]; simp
theorem EVo_39 {P : Prop} {s t : rS} {k S : Nat} {g : Nat → Int → Int} {r v x3 n0 l h d' : Int} (b d : Int) (hk : rgk k) (G : Im P (GS0 s k g)) (V : Im P (NR s k g S v n0 l h d')) (hso : ∀ q, so S q → so 1 q) (R : Im P (RG s t k 0)) (hr : r = rF s k 7) (hN : rF t k 7 = rF s k 7 + 1) (h0 : tr t k 0 r = 39) (h1 : tr t k 1 r = v) (h2 : tr t k 2 r = x3) (h5 : tr t k 5 r = 0) (sd : Im P (0 < rF s k 7 ∧ (0 ≤ b ∧ b ≤ 9000) ∧ (-1 ≤ d ∧ d ≤ 21) ∧ rF s k 12 ≤ rF t k 12 ∧ (True) ∧ (b ≤ l ∧ 0 ≤ l) ∧ d + 1 ≤ d'))   : ∃ g', Im P (GS0 t k g' ∧ (∀ j, j ≠ 3 → j ≠ 5 → j ≠ 8 → g' j v = g j v) ∧ KV g g' (rF s k 7) (rF t k 7) v ∧ OP t k g' r 39 d b h h 0 ∧ LI t k g' r 1 39 v ∧ (g 2 v ≤ 9000 ∧ g 3 v = 0) ∧ g' 6 r = 0) := by
  refine imx g (fun hp => ?_)
  obtain ⟨q1, q2, q3, q4, q5, q6, q7⟩ := sd hp
  subst hr
  have hs : gS (udt (tr t k) 1 (rF s k 7) 0) (rF t k 12) (gnw g (rF s k 7) 39 b d) (rF s k 7) := by
    have e : ∀ f, f ≠ 1 → udt (tr t k) 1 (rF s k 7) 0 f (rF s k 7) = tr t k f (rF s k 7) := fun f hf => udt_ne (Or.inl hf)
    unfold gS; simp only [gnw_N, e 0 (by decide), e 2 (by decide), e 3 (by decide), e 4 (by decide), h0, h2]
    refine ⟨by simp, by simp; omega, by simp; omega, by simp; omega, by simp, by simp; omega, by simp; omega, by simp, by simp, by simp, by simp, by simp; try omega, by simp, by simp, by simp, by simp, by simp⟩
  have V' := V hp
  obtain ⟨g', a1, a2, a3, a4, a5, a6⟩ := GI.newV (K := 39) (b := b) (d := d) (nm := rF t k 12) (GI.mv (t' := tr s k) (G hp) (fun _ _ _ _ _ => rfl) rfl q4) (V hp) q1 (fun f i hf _ hi => RG.f hk (R hp) hf hi (Or.inr (Or.inl rfl))) h5 h1 (fun f hf1 hf => by
    have hb := tb_ok hf
    have : f = 2 ∨ f = 3 := by omega
    rcases this with rfl | rfl
    · first | exact absurd hf (by decide) | (rw [h2]; omega)
    · first | exact absurd hf (by decide) | skip) hs (by decide) hso q6.1 q6.2 q7 (by decide)
  have v1 := V'.2.2.2.1
  have v2 := V'.2.2.2.2.2.2.1
  have v3 := V'.2.2.2.2.2.2.2.1
  refine ⟨g', ?_, a6, ?_, ?_, ?_, ⟨by omega, v1⟩, ?_⟩
  · unfold GS0; rw [hN]; exact a1
  · rw [hN]; exact a2
  · unfold OP; rw [hN]; exact a3
  · unfold LI; rw [hN]; exact a4
  · exact a5 rfl
theorem ECo_39 {P : Prop} {s : rS} {k : Nat} {g : Nat → Int → Int} {it d lo x y e : Int} (b : Int) (G : Im P (GS0 s k g)) (O : Im P (OP s k g it 39 d lo x y e)) (sd : Im P (x ≤ b ∧ y ≤ b ∧ b ≤ 9000)) : ∃ g', Im P (GS0 s k g' ∧ NR s k g' 2 it it lo b d ∧ KC g g' it) := by
  refine imx g (fun hp => ?_)
  have q := sd hp
  have o' := O hp
  obtain ⟨g', a1, a2, a3, a4⟩ := GI.close (b := b) (S := 2) (G hp) o' ⟨q.1, q.2.1, by omega⟩ (by show (30 ≤ ((39 : Nat) : Int) ∧ ((39 : Nat) : Int) ≤ 39); omega) (fun h => absurd h (by decide)) (fun h => absurd h (by decide))
  exact ⟨g', a1, a2, o'.2.2.2.1, fun j m hj => by
    by_cases e : m = it
    · subst e; exact a4 j (by omega)
    · exact a3 j m e⟩
theorem ENo_40 {P : Prop} {s t : rS} {k : Nat} {g : Nat → Int → Int} {r x2 x3 : Int} (b d : Int) (hk : rgk k) (G : Im P (GS0 s k g)) (R : Im P (RG s t k 0)) (hr : r = rF s k 7) (hN : rF t k 7 = rF s k 7 + 1) (h0 : tr t k 0 r = 40) (h1 : tr t k 1 r = x2) (h2 : tr t k 2 r = x3) (h5 : tr t k 5 r = 0) (sd : Im P (0 < rF s k 7 ∧ (0 ≤ b ∧ b ≤ 9000) ∧ (-1 ≤ d ∧ d ≤ 21) ∧ rF s k 12 ≤ rF t k 12 ∧ (x2 = 0 ∧ x3 = 0) ∧ (True))) : ∃ g', Im P (GS0 t k g' ∧ GK g g' (rF s k 7) (rF t k 7) 0 ∧ OP t k g' r 40 d b (-1) b 0 ∧ g' 6 r = 0) := by
  refine imx g (fun hp => ?_)
  obtain ⟨q1, q2, q3, q4, q5, q6⟩ := sd hp
  subst hr
  have hs : gS (tr t k) (rF t k 12) (gnw g (rF s k 7) 40 b d) (rF s k 7) := by
    unfold gS; simp only [gnw_N, h0, h1, h2]
    refine ⟨by simp, by simp; omega, by simp; omega, by simp; omega, by simp, by simp; omega, by simp; omega, by simp, by simp, by simp, by simp, by simp; try omega, ?_, ?_, by simp, by simp, by simp⟩ <;> first | (intro _; omega) | simp
  have A := GI.new (nm := rF t k 12) (K := 40) (b := b) (d := d) (GI.mv (t' := tr s k) (G hp) (fun _ _ _ _ _ => rfl) rfl q4) q1 (fun f i hf _ hi => RG.f hk (R hp) hf hi (Or.inr (Or.inl rfl))) h5 (fun f hf => by
    have hb := tb_ok hf
    have : f = 1 ∨ f = 2 ∨ f = 3 := by omega
    rcases this with rfl | rfl | rfl
    · first | exact absurd hf (by decide) | (rw [h1]; omega)
    · first | exact absurd hf (by decide) | (rw [h2]; omega)
    · first | exact absurd hf (by decide) | skip) hs
  refine ⟨gnw g (rF s k 7) 40 b d, ?_, ?_, ?_, ?_⟩
  · unfold GS0; rw [hN]; exact A.1
  · rw [hN]; exact A.2.1
  · unfold OP; rw [hN]; exact A.2.2
  · rw [gnw_N]; simp
theorem EVo_40 {P : Prop} {s t : rS} {k S : Nat} {g : Nat → Int → Int} {r v x3 n0 l h d' : Int} (b d : Int) (hk : rgk k) (G : Im P (GS0 s k g)) (V : Im P (NR s k g S v n0 l h d')) (hso : ∀ q, so S q → so 1 q) (R : Im P (RG s t k 0)) (hr : r = rF s k 7) (hN : rF t k 7 = rF s k 7 + 1) (h0 : tr t k 0 r = 40) (h1 : tr t k 1 r = v) (h2 : tr t k 2 r = x3) (h5 : tr t k 5 r = 0) (sd : Im P (0 < rF s k 7 ∧ (0 ≤ b ∧ b ≤ 9000) ∧ (-1 ≤ d ∧ d ≤ 21) ∧ rF s k 12 ≤ rF t k 12 ∧ (x3 = 0) ∧ (b ≤ l ∧ 0 ≤ l) ∧ d + 1 ≤ d'))   : ∃ g', Im P (GS0 t k g' ∧ (∀ j, j ≠ 3 → j ≠ 5 → j ≠ 8 → g' j v = g j v) ∧ KV g g' (rF s k 7) (rF t k 7) v ∧ OP t k g' r 40 d b h h 0 ∧ LI t k g' r 1 40 v ∧ (g 2 v ≤ 9000 ∧ g 3 v = 0)) := by
  refine imx g (fun hp => ?_)
  obtain ⟨q1, q2, q3, q4, q5, q6, q7⟩ := sd hp
  subst hr
  have hs : gS (udt (tr t k) 1 (rF s k 7) 0) (rF t k 12) (gnw g (rF s k 7) 40 b d) (rF s k 7) := by
    have e : ∀ f, f ≠ 1 → udt (tr t k) 1 (rF s k 7) 0 f (rF s k 7) = tr t k f (rF s k 7) := fun f hf => udt_ne (Or.inl hf)
    unfold gS; simp only [gnw_N, e 0 (by decide), e 2 (by decide), e 3 (by decide), e 4 (by decide), h0, h2]
    refine ⟨by simp, by simp; omega, by simp; omega, by simp; omega, by simp, by simp; omega, by simp; omega, by simp, by simp, by simp, by simp, by simp; try omega, by simp, by simp, by simp, by simp, by simp⟩
  have V' := V hp
  obtain ⟨g', a1, a2, a3, a4, a5, a6⟩ := GI.newV (K := 40) (b := b) (d := d) (nm := rF t k 12) (GI.mv (t' := tr s k) (G hp) (fun _ _ _ _ _ => rfl) rfl q4) (V hp) q1 (fun f i hf _ hi => RG.f hk (R hp) hf hi (Or.inr (Or.inl rfl))) h5 h1 (fun f hf1 hf => by
    have hb := tb_ok hf
    have : f = 2 ∨ f = 3 := by omega
    rcases this with rfl | rfl
    · first | exact absurd hf (by decide) | (rw [h2]; omega)
    · first | exact absurd hf (by decide) | skip) hs (by decide) hso q6.1 q6.2 q7 (by decide)
  have v1 := V'.2.2.2.1
  have v2 := V'.2.2.2.2.2.2.1
  have v3 := V'.2.2.2.2.2.2.2.1
  refine ⟨g', ?_, a6, ?_, ?_, ?_, ⟨by omega, v1⟩⟩
  · unfold GS0; rw [hN]; exact a1
  · rw [hN]; exact a2
  · unfold OP; rw [hN]; exact a3
  · unfold LI; rw [hN]; exact a4
theorem ECo_40 {P : Prop} {s : rS} {k : Nat} {g : Nat → Int → Int} {it d lo x y e : Int} (b : Int) (G : Im P (GS0 s k g)) (O : Im P (OP s k g it 40 d lo x y e)) (sd : Im P (x ≤ b ∧ y ≤ b ∧ b ≤ 9000)) : ∃ g', Im P (GS0 s k g' ∧ NR s k g' 21 it it lo b d ∧ KC g g' it) := by
  refine imx g (fun hp => ?_)
  have q := sd hp
  have o' := O hp
  obtain ⟨g', a1, a2, a3, a4⟩ := GI.close (b := b) (S := 21) (G hp) o' ⟨q.1, q.2.1, by omega⟩ (by show (((40 : Nat) : Int) = 40); omega) (fun h => absurd h (by decide)) (fun h => absurd h (by decide))
  exact ⟨g', a1, a2, o'.2.2.2.1, fun j m hj => by
    by_cases e : m = it
    · subst e; exact a4 j (by omega)
    · exact a3 j m e⟩
theorem ENo_42 {P : Prop} {s t : rS} {k : Nat} {g : Nat → Int → Int} {r x2 x3 : Int} (b d : Int) (hk : rgk k) (G : Im P (GS0 s k g)) (R : Im P (RG s t k 0)) (hr : r = rF s k 7) (hN : rF t k 7 = rF s k 7 + 1) (h0 : tr t k 0 r = 42) (h1 : tr t k 1 r = x2) (h2 : tr t k 2 r = x3) (h5 : tr t k 5 r = 0) (sd : Im P (0 < rF s k 7 ∧ (0 ≤ b ∧ b ≤ 9000) ∧ (-1 ≤ d ∧ d ≤ 21) ∧ rF s k 12 ≤ rF t k 12 ∧ (True) ∧ (0 ≤ x2 ∧ x2 < rF t k 12))) : ∃ g', Im P (GS0 t k g' ∧ GK g g' (rF s k 7) (rF t k 7) 0 ∧ OP t k g' r 42 d b (-1) b 0 ∧ g' 6 r = 0) := by
  refine imx g (fun hp => ?_)
  obtain ⟨q1, q2, q3, q4, q5, q6⟩ := sd hp
  subst hr
  have hs : gS (tr t k) (rF t k 12) (gnw g (rF s k 7) 42 b d) (rF s k 7) := by
    unfold gS; simp only [gnw_N, h0, h1, h2]
    refine ⟨by simp, by simp; omega, by simp; omega, by simp; omega, by simp, by simp; omega, by simp; omega, by simp, by simp, by simp, by simp, by simp; try omega, ?_, ?_, by simp, by simp, by simp⟩ <;> first | (intro _; omega) | simp
  have A := GI.new (nm := rF t k 12) (K := 42) (b := b) (d := d) (GI.mv (t' := tr s k) (G hp) (fun _ _ _ _ _ => rfl) rfl q4) q1 (fun f i hf _ hi => RG.f hk (R hp) hf hi (Or.inr (Or.inl rfl))) h5 (fun f hf => by
    have hb := tb_ok hf
    have : f = 1 ∨ f = 2 ∨ f = 3 := by omega
    rcases this with rfl | rfl | rfl
    · first | exact absurd hf (by decide) | (rw [h1]; omega)
    · first | exact absurd hf (by decide) | (rw [h2]; omega)
    · first | exact absurd hf (by decide) | skip) hs
  refine ⟨gnw g (rF s k 7) 42 b d, ?_, ?_, ?_, ?_⟩
  · unfold GS0; rw [hN]; exact A.1
  · rw [hN]; exact A.2.1
  · unfold OP; rw [hN]; exact A.2.2
  · rw [gnw_N]; simp
theorem ECo_42 {P : Prop} {s : rS} {k : Nat} {g : Nat → Int → Int} {it d lo x y e : Int} (b : Int) (G : Im P (GS0 s k g)) (O : Im P (OP s k g it 42 d lo x y e)) (sd : Im P (x ≤ b ∧ y ≤ b ∧ b ≤ 9000)) : ∃ g', Im P (GS0 s k g' ∧ NR s k g' 3 it it lo b d ∧ KC g g' it) := by
  refine imx g (fun hp => ?_)
  have q := sd hp
  have o' := O hp
  obtain ⟨g', a1, a2, a3, a4⟩ := GI.close (b := b) (S := 3) (G hp) o' ⟨q.1, q.2.1, by omega⟩ (by show (42 ≤ ((42 : Nat) : Int) ∧ ((42 : Nat) : Int) ≤ 43); omega) (fun h => absurd h (by decide)) (fun h => absurd h (by decide))
  exact ⟨g', a1, a2, o'.2.2.2.1, fun j m hj => by
    by_cases e : m = it
    · subst e; exact a4 j (by omega)
    · exact a3 j m e⟩
theorem ENo_43 {P : Prop} {s t : rS} {k : Nat} {g : Nat → Int → Int} {r x2 x3 : Int} (b d : Int) (hk : rgk k) (G : Im P (GS0 s k g)) (R : Im P (RG s t k 0)) (hr : r = rF s k 7) (hN : rF t k 7 = rF s k 7 + 1) (h0 : tr t k 0 r = 43) (h1 : tr t k 1 r = x2) (h2 : tr t k 2 r = x3) (h5 : tr t k 5 r = 0) (sd : Im P (0 < rF s k 7 ∧ (0 ≤ b ∧ b ≤ 9000) ∧ (-1 ≤ d ∧ d ≤ 21) ∧ rF s k 12 ≤ rF t k 12 ∧ (x2 = 0) ∧ (True))) : ∃ g', Im P (GS0 t k g' ∧ GK g g' (rF s k 7) (rF t k 7) 0 ∧ OP t k g' r 43 d b (-1) b 0 ∧ g' 6 r = 0) := by
  refine imx g (fun hp => ?_)
  obtain ⟨q1, q2, q3, q4, q5, q6⟩ := sd hp
  subst hr
  have hs : gS (tr t k) (rF t k 12) (gnw g (rF s k 7) 43 b d) (rF s k 7) := by
    unfold gS; simp only [gnw_N, h0, h1, h2]
    refine ⟨by simp, by simp; omega, by simp; omega, by simp; omega, by simp, by simp; omega, by simp; omega, by simp, by simp, by simp, by simp, by simp; try omega, ?_, ?_, by simp, by simp, by simp⟩ <;> first | (intro _; omega) | simp
  have A := GI.new (nm := rF t k 12) (K := 43) (b := b) (d := d) (GI.mv (t' := tr s k) (G hp) (fun _ _ _ _ _ => rfl) rfl q4) q1 (fun f i hf _ hi => RG.f hk (R hp) hf hi (Or.inr (Or.inl rfl))) h5 (fun f hf => by
    have hb := tb_ok hf
    have : f = 1 ∨ f = 2 ∨ f = 3 := by omega
    rcases this with rfl | rfl | rfl
    · first | exact absurd hf (by decide) | (rw [h1]; omega)
    · first | exact absurd hf (by decide) | (rw [h2]; omega)
    · first | exact absurd hf (by decide) | skip) hs
  refine ⟨gnw g (rF s k 7) 43 b d, ?_, ?_, ?_, ?_⟩
  · unfold GS0; rw [hN]; exact A.1
  · rw [hN]; exact A.2.1
  · unfold OP; rw [hN]; exact A.2.2
  · rw [gnw_N]; simp
theorem ECo_43 {P : Prop} {s : rS} {k : Nat} {g : Nat → Int → Int} {it d lo x y e : Int} (b : Int) (G : Im P (GS0 s k g)) (O : Im P (OP s k g it 43 d lo x y e)) (sd : Im P (x ≤ b ∧ y ≤ b ∧ b ≤ 9000)) : ∃ g', Im P (GS0 s k g' ∧ NR s k g' 3 it it lo b d ∧ KC g g' it) := by
  refine imx g (fun hp => ?_)
  have q := sd hp
  have o' := O hp
  obtain ⟨g', a1, a2, a3, a4⟩ := GI.close (b := b) (S := 3) (G hp) o' ⟨q.1, q.2.1, by omega⟩ (by show (42 ≤ ((43 : Nat) : Int) ∧ ((43 : Nat) : Int) ≤ 43); omega) (fun h => absurd h (by decide)) (fun h => absurd h (by decide))
  exact ⟨g', a1, a2, o'.2.2.2.1, fun j m hj => by
    by_cases e : m = it
    · subst e; exact a4 j (by omega)
    · exact a3 j m e⟩
theorem ENo_44 {P : Prop} {s t : rS} {k : Nat} {g : Nat → Int → Int} {r x2 x3 : Int} (b d : Int) (hk : rgk k) (G : Im P (GS0 s k g)) (R : Im P (RG s t k 0)) (hr : r = rF s k 7) (hN : rF t k 7 = rF s k 7 + 1) (h0 : tr t k 0 r = 44) (h1 : tr t k 1 r = x2) (h2 : tr t k 2 r = x3) (h5 : tr t k 5 r = 0) (sd : Im P (0 < rF s k 7 ∧ (0 ≤ b ∧ b ≤ 9000) ∧ (-1 ≤ d ∧ d ≤ 21) ∧ rF s k 12 ≤ rF t k 12 ∧ (x2 = 0) ∧ (True))) : ∃ g', Im P (GS0 t k g' ∧ GK g g' (rF s k 7) (rF t k 7) 0 ∧ OP t k g' r 44 d b (-1) b 0 ∧ g' 6 r = 0) := by
  refine imx g (fun hp => ?_)
  obtain ⟨q1, q2, q3, q4, q5, q6⟩ := sd hp
  subst hr
  have hs : gS (tr t k) (rF t k 12) (gnw g (rF s k 7) 44 b d) (rF s k 7) := by
    unfold gS; simp only [gnw_N, h0, h1, h2]
    refine ⟨by simp, by simp; omega, by simp; omega, by simp; omega, by simp, by simp; omega, by simp; omega, by simp, by simp, by simp, by simp, by simp; try omega, ?_, ?_, by simp, by simp, by simp⟩ <;> first | (intro _; omega) | simp
  have A := GI.new (nm := rF t k 12) (K := 44) (b := b) (d := d) (GI.mv (t' := tr s k) (G hp) (fun _ _ _ _ _ => rfl) rfl q4) q1 (fun f i hf _ hi => RG.f hk (R hp) hf hi (Or.inr (Or.inl rfl))) h5 (fun f hf => by
    have hb := tb_ok hf
    have : f = 1 ∨ f = 2 ∨ f = 3 := by omega
    rcases this with rfl | rfl | rfl
    · first | exact absurd hf (by decide) | (rw [h1]; omega)
    · first | exact absurd hf (by decide) | (rw [h2]; omega)
    · first | exact absurd hf (by decide) | skip) hs
  refine ⟨gnw g (rF s k 7) 44 b d, ?_, ?_, ?_, ?_⟩
  · unfold GS0; rw [hN]; exact A.1
  · rw [hN]; exact A.2.1
  · unfold OP; rw [hN]; exact A.2.2
  · rw [gnw_N]; simp
theorem EVo_44 {P : Prop} {s t : rS} {k S : Nat} {g : Nat → Int → Int} {r v x3 n0 l h d' : Int} (b d : Int) (hk : rgk k) (G : Im P (GS0 s k g)) (V : Im P (NR s k g S v n0 l h d')) (hso : ∀ q, so S q → so 5 q) (R : Im P (RG s t k 0)) (hr : r = rF s k 7) (hN : rF t k 7 = rF s k 7 + 1) (h0 : tr t k 0 r = 44) (h1 : tr t k 1 r = v) (h2 : tr t k 2 r = x3) (h5 : tr t k 5 r = 0) (sd : Im P (0 < rF s k 7 ∧ (0 ≤ b ∧ b ≤ 9000) ∧ (-1 ≤ d ∧ d ≤ 21) ∧ rF s k 12 ≤ rF t k 12 ∧ (True) ∧ (b ≤ l ∧ 0 ≤ l) ∧ d + 0 ≤ d'))   : ∃ g', Im P (GS0 t k g' ∧ (∀ j, j ≠ 3 → j ≠ 5 → j ≠ 8 → g' j v = g j v) ∧ KV g g' (rF s k 7) (rF t k 7) v ∧ OP t k g' r 44 d b h h 0 ∧ LI t k g' r 1 44 v ∧ (g 2 v ≤ 9000 ∧ g 3 v = 0)) := by
  refine imx g (fun hp => ?_)
  obtain ⟨q1, q2, q3, q4, q5, q6, q7⟩ := sd hp
  subst hr
  have hs : gS (udt (tr t k) 1 (rF s k 7) 0) (rF t k 12) (gnw g (rF s k 7) 44 b d) (rF s k 7) := by
    have e : ∀ f, f ≠ 1 → udt (tr t k) 1 (rF s k 7) 0 f (rF s k 7) = tr t k f (rF s k 7) := fun f hf => udt_ne (Or.inl hf)
    unfold gS; simp only [gnw_N, e 0 (by decide), e 2 (by decide), e 3 (by decide), e 4 (by decide), h0, h2]
    refine ⟨by simp, by simp; omega, by simp; omega, by simp; omega, by simp, by simp; omega, by simp; omega, by simp, by simp, by simp, by simp, by simp; try omega, by simp, by simp, by simp, by simp, by simp⟩
  have V' := V hp
  obtain ⟨g', a1, a2, a3, a4, a5, a6⟩ := GI.newV (K := 44) (b := b) (d := d) (nm := rF t k 12) (GI.mv (t' := tr s k) (G hp) (fun _ _ _ _ _ => rfl) rfl q4) (V hp) q1 (fun f i hf _ hi => RG.f hk (R hp) hf hi (Or.inr (Or.inl rfl))) h5 h1 (fun f hf1 hf => by
    have hb := tb_ok hf
    have : f = 2 ∨ f = 3 := by omega
    rcases this with rfl | rfl
    · first | exact absurd hf (by decide) | (rw [h2]; omega)
    · first | exact absurd hf (by decide) | skip) hs (by decide) hso q6.1 q6.2 q7 (by decide)
  have v1 := V'.2.2.2.1
  have v2 := V'.2.2.2.2.2.2.1
  have v3 := V'.2.2.2.2.2.2.2.1
  refine ⟨g', ?_, a6, ?_, ?_, ?_, ⟨by omega, v1⟩⟩
  · unfold GS0; rw [hN]; exact a1
  · rw [hN]; exact a2
  · unfold OP; rw [hN]; exact a3
  · unfold LI; rw [hN]; exact a4
theorem ECo_44 {P : Prop} {s : rS} {k : Nat} {g : Nat → Int → Int} {it d lo x y e : Int} (b : Int) (G : Im P (GS0 s k g)) (O : Im P (OP s k g it 44 d lo x y e)) (sd : Im P (x ≤ b ∧ y ≤ b ∧ b ≤ 9000 ∧ 0 < g 6 it)) : ∃ g', Im P (GS0 s k g' ∧ NR s k g' 4 it it lo b d ∧ KC g g' it) := by
  refine imx g (fun hp => ?_)
  have q := sd hp
  have o' := O hp
  obtain ⟨g', a1, a2, a3, a4⟩ := GI.close (b := b) (S := 4) (G hp) o' ⟨q.1, q.2.1, by omega⟩ (by show (((44 : Nat) : Int) = 44); omega) (fun h => absurd h (by decide)) (fun _ => q.2.2.2)
  exact ⟨g', a1, a2, o'.2.2.2.1, fun j m hj => by
    by_cases e : m = it
    · subst e; exact a4 j (by omega)
    · exact a3 j m e⟩
theorem ENo_45 {P : Prop} {s t : rS} {k : Nat} {g : Nat → Int → Int} {r x2 x3 : Int} (b d : Int) (hk : rgk k) (G : Im P (GS0 s k g)) (R : Im P (RG s t k 0)) (hr : r = rF s k 7) (hN : rF t k 7 = rF s k 7 + 1) (h0 : tr t k 0 r = 45) (h1 : tr t k 1 r = x2) (h2 : tr t k 2 r = x3) (h5 : tr t k 5 r = 0) (sd : Im P (0 < rF s k 7 ∧ (0 ≤ b ∧ b ≤ 9000) ∧ (-1 ≤ d ∧ d ≤ 21) ∧ rF s k 12 ≤ rF t k 12 ∧ (x3 = 0) ∧ (True))) : ∃ g', Im P (GS0 t k g' ∧ GK g g' (rF s k 7) (rF t k 7) 0 ∧ OP t k g' r 45 d b (-1) b 0 ∧ g' 6 r = 0) := by
  refine imx g (fun hp => ?_)
  obtain ⟨q1, q2, q3, q4, q5, q6⟩ := sd hp
  subst hr
  have hs : gS (tr t k) (rF t k 12) (gnw g (rF s k 7) 45 b d) (rF s k 7) := by
    unfold gS; simp only [gnw_N, h0, h1, h2]
    refine ⟨by simp, by simp; omega, by simp; omega, by simp; omega, by simp, by simp; omega, by simp; omega, by simp, by simp, by simp, by simp, by simp; try omega, ?_, ?_, by simp, by simp, by simp⟩ <;> first | (intro _; omega) | simp
  have A := GI.new (nm := rF t k 12) (K := 45) (b := b) (d := d) (GI.mv (t' := tr s k) (G hp) (fun _ _ _ _ _ => rfl) rfl q4) q1 (fun f i hf _ hi => RG.f hk (R hp) hf hi (Or.inr (Or.inl rfl))) h5 (fun f hf => by
    have hb := tb_ok hf
    have : f = 1 ∨ f = 2 ∨ f = 3 := by omega
    rcases this with rfl | rfl | rfl
    · first | exact absurd hf (by decide) | (rw [h1]; omega)
    · first | exact absurd hf (by decide) | (rw [h2]; omega)
    · first | exact absurd hf (by decide) | skip) hs
  refine ⟨gnw g (rF s k 7) 45 b d, ?_, ?_, ?_, ?_⟩
  · unfold GS0; rw [hN]; exact A.1
  · rw [hN]; exact A.2.1
  · unfold OP; rw [hN]; exact A.2.2
  · rw [gnw_N]; simp
theorem ECo_45 {P : Prop} {s : rS} {k : Nat} {g : Nat → Int → Int} {it d lo x y e : Int} (b : Int) (G : Im P (GS0 s k g)) (O : Im P (OP s k g it 45 d lo x y e)) (sd : Im P (x ≤ b ∧ y ≤ b ∧ b ≤ 9000)) : ∃ g', Im P (GS0 s k g' ∧ NR s k g' 5 it it lo b d ∧ KC g g' it) := by
  refine imx g (fun hp => ?_)
  have q := sd hp
  have o' := O hp
  obtain ⟨g', a1, a2, a3, a4⟩ := GI.close (b := b) (S := 5) (G hp) o' ⟨q.1, q.2.1, by omega⟩ (by show (45 ≤ ((45 : Nat) : Int) ∧ ((45 : Nat) : Int) ≤ 47); omega) (fun h => absurd h (by decide)) (fun h => absurd h (by decide))
  exact ⟨g', a1, a2, o'.2.2.2.1, fun j m hj => by
    by_cases e : m = it
    · subst e; exact a4 j (by omega)
    · exact a3 j m e⟩
theorem ENo_46 {P : Prop} {s t : rS} {k : Nat} {g : Nat → Int → Int} {r x2 x3 : Int} (b d : Int) (hk : rgk k) (G : Im P (GS0 s k g)) (R : Im P (RG s t k 0)) (hr : r = rF s k 7) (hN : rF t k 7 = rF s k 7 + 1) (h0 : tr t k 0 r = 46) (h1 : tr t k 1 r = x2) (h2 : tr t k 2 r = x3) (h5 : tr t k 5 r = 0) (sd : Im P (0 < rF s k 7 ∧ (0 ≤ b ∧ b ≤ 9000) ∧ (-1 ≤ d ∧ d ≤ 21) ∧ rF s k 12 ≤ rF t k 12 ∧ (x2 = 0 ∧ x3 = 0) ∧ (True))) : ∃ g', Im P (GS0 t k g' ∧ GK g g' (rF s k 7) (rF t k 7) 0 ∧ OP t k g' r 46 d b (-1) b 0 ∧ g' 6 r = 0) := by
  refine imx g (fun hp => ?_)
  obtain ⟨q1, q2, q3, q4, q5, q6⟩ := sd hp
  subst hr
  have hs : gS (tr t k) (rF t k 12) (gnw g (rF s k 7) 46 b d) (rF s k 7) := by
    unfold gS; simp only [gnw_N, h0, h1, h2]
    refine ⟨by simp, by simp; omega, by simp; omega, by simp; omega, by simp, by simp; omega, by simp; omega, by simp, by simp, by simp, by simp, by simp; try omega, ?_, ?_, by simp, by simp, by simp⟩ <;> first | (intro _; omega) | simp
  have A := GI.new (nm := rF t k 12) (K := 46) (b := b) (d := d) (GI.mv (t' := tr s k) (G hp) (fun _ _ _ _ _ => rfl) rfl q4) q1 (fun f i hf _ hi => RG.f hk (R hp) hf hi (Or.inr (Or.inl rfl))) h5 (fun f hf => by
    have hb := tb_ok hf
    have : f = 1 ∨ f = 2 ∨ f = 3 := by omega
    rcases this with rfl | rfl | rfl
    · first | exact absurd hf (by decide) | (rw [h1]; omega)
    · first | exact absurd hf (by decide) | (rw [h2]; omega)
    · first | exact absurd hf (by decide) | skip) hs
  refine ⟨gnw g (rF s k 7) 46 b d, ?_, ?_, ?_, ?_⟩
  · unfold GS0; rw [hN]; exact A.1
  · rw [hN]; exact A.2.1
  · unfold OP; rw [hN]; exact A.2.2
  · rw [gnw_N]; simp
theorem EVo_46 {P : Prop} {s t : rS} {k S : Nat} {g : Nat → Int → Int} {r v x3 n0 l h d' : Int} (b d : Int) (hk : rgk k) (G : Im P (GS0 s k g)) (V : Im P (NR s k g S v n0 l h d')) (hso : ∀ q, so S q → so 1 q) (R : Im P (RG s t k 0)) (hr : r = rF s k 7) (hN : rF t k 7 = rF s k 7 + 1) (h0 : tr t k 0 r = 46) (h1 : tr t k 1 r = v) (h2 : tr t k 2 r = x3) (h5 : tr t k 5 r = 0) (sd : Im P (0 < rF s k 7 ∧ (0 ≤ b ∧ b ≤ 9000) ∧ (-1 ≤ d ∧ d ≤ 21) ∧ rF s k 12 ≤ rF t k 12 ∧ (x3 = 0) ∧ (b ≤ l ∧ 0 ≤ l) ∧ d + 1 ≤ d'))   : ∃ g', Im P (GS0 t k g' ∧ (∀ j, j ≠ 3 → j ≠ 5 → j ≠ 8 → g' j v = g j v) ∧ KV g g' (rF s k 7) (rF t k 7) v ∧ OP t k g' r 46 d b h h 0 ∧ LI t k g' r 1 46 v ∧ (g 2 v ≤ 9000 ∧ g 3 v = 0) ∧ g' 6 r = 0) := by
  refine imx g (fun hp => ?_)
  obtain ⟨q1, q2, q3, q4, q5, q6, q7⟩ := sd hp
  subst hr
  have hs : gS (udt (tr t k) 1 (rF s k 7) 0) (rF t k 12) (gnw g (rF s k 7) 46 b d) (rF s k 7) := by
    have e : ∀ f, f ≠ 1 → udt (tr t k) 1 (rF s k 7) 0 f (rF s k 7) = tr t k f (rF s k 7) := fun f hf => udt_ne (Or.inl hf)
    unfold gS; simp only [gnw_N, e 0 (by decide), e 2 (by decide), e 3 (by decide), e 4 (by decide), h0, h2]
    refine ⟨by simp, by simp; omega, by simp; omega, by simp; omega, by simp, by simp; omega, by simp; omega, by simp, by simp, by simp, by simp, by simp; try omega, by simp, by simp, by simp, by simp, by simp⟩
  have V' := V hp
  obtain ⟨g', a1, a2, a3, a4, a5, a6⟩ := GI.newV (K := 46) (b := b) (d := d) (nm := rF t k 12) (GI.mv (t' := tr s k) (G hp) (fun _ _ _ _ _ => rfl) rfl q4) (V hp) q1 (fun f i hf _ hi => RG.f hk (R hp) hf hi (Or.inr (Or.inl rfl))) h5 h1 (fun f hf1 hf => by
    have hb := tb_ok hf
    have : f = 2 ∨ f = 3 := by omega
    rcases this with rfl | rfl
    · first | exact absurd hf (by decide) | (rw [h2]; omega)
    · first | exact absurd hf (by decide) | skip) hs (by decide) hso q6.1 q6.2 q7 (by decide)
  have v1 := V'.2.2.2.1
  have v2 := V'.2.2.2.2.2.2.1
  have v3 := V'.2.2.2.2.2.2.2.1
  refine ⟨g', ?_, a6, ?_, ?_, ?_, ⟨by omega, v1⟩, ?_⟩
  · unfold GS0; rw [hN]; exact a1
  · rw [hN]; exact a2
  · unfold OP; rw [hN]; exact a3
  · unfold LI; rw [hN]; exact a4
  · exact a5 rfl
theorem ECo_46 {P : Prop} {s : rS} {k : Nat} {g : Nat → Int → Int} {it d lo x y e : Int} (b : Int) (G : Im P (GS0 s k g)) (O : Im P (OP s k g it 46 d lo x y e)) (sd : Im P (x ≤ b ∧ y ≤ b ∧ b ≤ 9000)) : ∃ g', Im P (GS0 s k g' ∧ NR s k g' 5 it it lo b d ∧ KC g g' it) := by
  refine imx g (fun hp => ?_)
  have q := sd hp
  have o' := O hp
  obtain ⟨g', a1, a2, a3, a4⟩ := GI.close (b := b) (S := 5) (G hp) o' ⟨q.1, q.2.1, by omega⟩ (by show (45 ≤ ((46 : Nat) : Int) ∧ ((46 : Nat) : Int) ≤ 47); omega) (fun h => absurd h (by decide)) (fun h => absurd h (by decide))
  exact ⟨g', a1, a2, o'.2.2.2.1, fun j m hj => by
    by_cases e : m = it
    · subst e; exact a4 j (by omega)
    · exact a3 j m e⟩
theorem ENo_47 {P : Prop} {s t : rS} {k : Nat} {g : Nat → Int → Int} {r x2 x3 : Int} (b d : Int) (hk : rgk k) (G : Im P (GS0 s k g)) (R : Im P (RG s t k 0)) (hr : r = rF s k 7) (hN : rF t k 7 = rF s k 7 + 1) (h0 : tr t k 0 r = 47) (h1 : tr t k 1 r = x2) (h2 : tr t k 2 r = x3) (h5 : tr t k 5 r = 0) (sd : Im P (0 < rF s k 7 ∧ (0 ≤ b ∧ b ≤ 9000) ∧ (-1 ≤ d ∧ d ≤ 21) ∧ rF s k 12 ≤ rF t k 12 ∧ (x2 = 0) ∧ (True))) : ∃ g', Im P (GS0 t k g' ∧ GK g g' (rF s k 7) (rF t k 7) 0 ∧ OP t k g' r 47 d b (-1) b 0 ∧ g' 6 r = 0) := by
  refine imx g (fun hp => ?_)
  obtain ⟨q1, q2, q3, q4, q5, q6⟩ := sd hp
  subst hr
  have hs : gS (tr t k) (rF t k 12) (gnw g (rF s k 7) 47 b d) (rF s k 7) := by
    unfold gS; simp only [gnw_N, h0, h1, h2]
    refine ⟨by simp, by simp; omega, by simp; omega, by simp; omega, by simp, by simp; omega, by simp; omega, by simp, by simp, by simp, by simp, by simp; try omega, ?_, ?_, by simp, by simp, by simp⟩ <;> first | (intro _; omega) | simp
  have A := GI.new (nm := rF t k 12) (K := 47) (b := b) (d := d) (GI.mv (t' := tr s k) (G hp) (fun _ _ _ _ _ => rfl) rfl q4) q1 (fun f i hf _ hi => RG.f hk (R hp) hf hi (Or.inr (Or.inl rfl))) h5 (fun f hf => by
    have hb := tb_ok hf
    have : f = 1 ∨ f = 2 ∨ f = 3 := by omega
    rcases this with rfl | rfl | rfl
    · first | exact absurd hf (by decide) | (rw [h1]; omega)
    · first | exact absurd hf (by decide) | (rw [h2]; omega)
    · first | exact absurd hf (by decide) | skip) hs
  refine ⟨gnw g (rF s k 7) 47 b d, ?_, ?_, ?_, ?_⟩
  · unfold GS0; rw [hN]; exact A.1
  · rw [hN]; exact A.2.1
  · unfold OP; rw [hN]; exact A.2.2
  · rw [gnw_N]; simp
theorem EVo_47 {P : Prop} {s t : rS} {k S : Nat} {g : Nat → Int → Int} {r v x3 n0 l h d' : Int} (b d : Int) (hk : rgk k) (G : Im P (GS0 s k g)) (V : Im P (NR s k g S v n0 l h d')) (hso : ∀ q, so S q → so 10 q) (R : Im P (RG s t k 0)) (hr : r = rF s k 7) (hN : rF t k 7 = rF s k 7 + 1) (h0 : tr t k 0 r = 47) (h1 : tr t k 1 r = v) (h2 : tr t k 2 r = x3) (h5 : tr t k 5 r = 0) (sd : Im P (0 < rF s k 7 ∧ (0 ≤ b ∧ b ≤ 9000) ∧ (-1 ≤ d ∧ d ≤ 21) ∧ rF s k 12 ≤ rF t k 12 ∧ (True) ∧ (b ≤ l ∧ 0 ≤ l) ∧ d + (-100) ≤ d'))   : ∃ g', Im P (GS0 t k g' ∧ (∀ j, j ≠ 3 → j ≠ 5 → j ≠ 8 → g' j v = g j v) ∧ KV g g' (rF s k 7) (rF t k 7) v ∧ OP t k g' r 47 d b h h 0 ∧ LI t k g' r 1 47 v ∧ (g 2 v ≤ 9000 ∧ g 3 v = 0) ∧ g' 6 r = 0) := by
  refine imx g (fun hp => ?_)
  obtain ⟨q1, q2, q3, q4, q5, q6, q7⟩ := sd hp
  subst hr
  have hs : gS (udt (tr t k) 1 (rF s k 7) 0) (rF t k 12) (gnw g (rF s k 7) 47 b d) (rF s k 7) := by
    have e : ∀ f, f ≠ 1 → udt (tr t k) 1 (rF s k 7) 0 f (rF s k 7) = tr t k f (rF s k 7) := fun f hf => udt_ne (Or.inl hf)
    unfold gS; simp only [gnw_N, e 0 (by decide), e 2 (by decide), e 3 (by decide), e 4 (by decide), h0, h2]
    refine ⟨by simp, by simp; omega, by simp; omega, by simp; omega, by simp, by simp; omega, by simp; omega, by simp, by simp, by simp, by simp, by simp; try omega, by simp, by simp, by simp, by simp, by simp⟩
  have V' := V hp
  obtain ⟨g', a1, a2, a3, a4, a5, a6⟩ := GI.newV (K := 47) (b := b) (d := d) (nm := rF t k 12) (GI.mv (t' := tr s k) (G hp) (fun _ _ _ _ _ => rfl) rfl q4) (V hp) q1 (fun f i hf _ hi => RG.f hk (R hp) hf hi (Or.inr (Or.inl rfl))) h5 h1 (fun f hf1 hf => by
    have hb := tb_ok hf
    have : f = 2 ∨ f = 3 := by omega
    rcases this with rfl | rfl
    · first | exact absurd hf (by decide) | (rw [h2]; omega)
    · first | exact absurd hf (by decide) | skip) hs (by decide) hso q6.1 q6.2 q7 (by decide)
  have v1 := V'.2.2.2.1
  have v2 := V'.2.2.2.2.2.2.1
  have v3 := V'.2.2.2.2.2.2.2.1
  refine ⟨g', ?_, a6, ?_, ?_, ?_, ⟨by omega, v1⟩, ?_⟩
  · unfold GS0; rw [hN]; exact a1
  · rw [hN]; exact a2
  · unfold OP; rw [hN]; exact a3
  · unfold LI; rw [hN]; exact a4
  · exact a5 rfl
theorem ECo_47 {P : Prop} {s : rS} {k : Nat} {g : Nat → Int → Int} {it d lo x y e : Int} (b : Int) (G : Im P (GS0 s k g)) (O : Im P (OP s k g it 47 d lo x y e)) (sd : Im P (x ≤ b ∧ y ≤ b ∧ b ≤ 9000)) : ∃ g', Im P (GS0 s k g' ∧ NR s k g' 5 it it lo b d ∧ KC g g' it) := by
  refine imx g (fun hp => ?_)
  have q := sd hp
  have o' := O hp
  obtain ⟨g', a1, a2, a3, a4⟩ := GI.close (b := b) (S := 5) (G hp) o' ⟨q.1, q.2.1, by omega⟩ (by show (45 ≤ ((47 : Nat) : Int) ∧ ((47 : Nat) : Int) ≤ 47); omega) (fun h => absurd h (by decide)) (fun h => absurd h (by decide))
  exact ⟨g', a1, a2, o'.2.2.2.1, fun j m hj => by
    by_cases e : m = it
    · subst e; exact a4 j (by omega)
    · exact a3 j m e⟩
theorem ENo_50 {P : Prop} {s t : rS} {k : Nat} {g : Nat → Int → Int} {r x2 x3 : Int} (b d : Int) (hk : rgk k) (G : Im P (GS0 s k g)) (R : Im P (RG s t k 0)) (hr : r = rF s k 7) (hN : rF t k 7 = rF s k 7 + 1) (h0 : tr t k 0 r = 50) (h1 : tr t k 1 r = x2) (h2 : tr t k 2 r = x3) (h5 : tr t k 5 r = 0) (sd : Im P (0 < rF s k 7 ∧ (0 ≤ b ∧ b ≤ 9000) ∧ (-1 ≤ d ∧ d ≤ 21) ∧ rF s k 12 ≤ rF t k 12 ∧ (x2 = 0) ∧ (True))) : ∃ g', Im P (GS0 t k g' ∧ GK g g' (rF s k 7) (rF t k 7) 0 ∧ OP t k g' r 50 d b (-1) b 0 ∧ g' 6 r = 0) := by
  refine imx g (fun hp => ?_)
  obtain ⟨q1, q2, q3, q4, q5, q6⟩ := sd hp
  subst hr
  have hs : gS (tr t k) (rF t k 12) (gnw g (rF s k 7) 50 b d) (rF s k 7) := by
    unfold gS; simp only [gnw_N, h0, h1, h2]
    refine ⟨by simp, by simp; omega, by simp; omega, by simp; omega, by simp, by simp; omega, by simp; omega, by simp, by simp, by simp, by simp, by simp; try omega, ?_, ?_, by simp, by simp, by simp⟩ <;> first | (intro _; omega) | simp
  have A := GI.new (nm := rF t k 12) (K := 50) (b := b) (d := d) (GI.mv (t' := tr s k) (G hp) (fun _ _ _ _ _ => rfl) rfl q4) q1 (fun f i hf _ hi => RG.f hk (R hp) hf hi (Or.inr (Or.inl rfl))) h5 (fun f hf => by
    have hb := tb_ok hf
    have : f = 1 ∨ f = 2 ∨ f = 3 := by omega
    rcases this with rfl | rfl | rfl
    · first | exact absurd hf (by decide) | (rw [h1]; omega)
    · first | exact absurd hf (by decide) | (rw [h2]; omega)
    · first | exact absurd hf (by decide) | skip) hs
  refine ⟨gnw g (rF s k 7) 50 b d, ?_, ?_, ?_, ?_⟩
  · unfold GS0; rw [hN]; exact A.1
  · rw [hN]; exact A.2.1
  · unfold OP; rw [hN]; exact A.2.2
  · rw [gnw_N]; simp
theorem EVo_50 {P : Prop} {s t : rS} {k S : Nat} {g : Nat → Int → Int} {r v x3 n0 l h d' : Int} (b d : Int) (hk : rgk k) (G : Im P (GS0 s k g)) (V : Im P (NR s k g S v n0 l h d')) (hso : ∀ q, so S q → so 1 q) (R : Im P (RG s t k 0)) (hr : r = rF s k 7) (hN : rF t k 7 = rF s k 7 + 1) (h0 : tr t k 0 r = 50) (h1 : tr t k 1 r = v) (h2 : tr t k 2 r = x3) (h5 : tr t k 5 r = 0) (sd : Im P (0 < rF s k 7 ∧ (0 ≤ b ∧ b ≤ 9000) ∧ (-1 ≤ d ∧ d ≤ 21) ∧ rF s k 12 ≤ rF t k 12 ∧ (True) ∧ (b ≤ l ∧ 0 ≤ l) ∧ d + 1 ≤ d'))   : ∃ g', Im P (GS0 t k g' ∧ (∀ j, j ≠ 3 → j ≠ 5 → j ≠ 8 → g' j v = g j v) ∧ KV g g' (rF s k 7) (rF t k 7) v ∧ OP t k g' r 50 d b h h 0 ∧ LI t k g' r 1 50 v ∧ (g 2 v ≤ 9000 ∧ g 3 v = 0) ∧ g' 6 r = 0) := by
  refine imx g (fun hp => ?_)
  obtain ⟨q1, q2, q3, q4, q5, q6, q7⟩ := sd hp
  subst hr
  have hs : gS (udt (tr t k) 1 (rF s k 7) 0) (rF t k 12) (gnw g (rF s k 7) 50 b d) (rF s k 7) := by
    have e : ∀ f, f ≠ 1 → udt (tr t k) 1 (rF s k 7) 0 f (rF s k 7) = tr t k f (rF s k 7) := fun f hf => udt_ne (Or.inl hf)
    unfold gS; simp only [gnw_N, e 0 (by decide), e 2 (by decide), e 3 (by decide), e 4 (by decide), h0, h2]
    refine ⟨by simp, by simp; omega, by simp; omega, by simp; omega, by simp, by simp; omega, by simp; omega, by simp, by simp, by simp, by simp, by simp; try omega, by simp, by simp, by simp, by simp, by simp⟩
  have V' := V hp
  obtain ⟨g', a1, a2, a3, a4, a5, a6⟩ := GI.newV (K := 50) (b := b) (d := d) (nm := rF t k 12) (GI.mv (t' := tr s k) (G hp) (fun _ _ _ _ _ => rfl) rfl q4) (V hp) q1 (fun f i hf _ hi => RG.f hk (R hp) hf hi (Or.inr (Or.inl rfl))) h5 h1 (fun f hf1 hf => by
    have hb := tb_ok hf
    have : f = 2 ∨ f = 3 := by omega
    rcases this with rfl | rfl
    · first | exact absurd hf (by decide) | (rw [h2]; omega)
    · first | exact absurd hf (by decide) | skip) hs (by decide) hso q6.1 q6.2 q7 (by decide)
  have v1 := V'.2.2.2.1
  have v2 := V'.2.2.2.2.2.2.1
  have v3 := V'.2.2.2.2.2.2.2.1
  refine ⟨g', ?_, a6, ?_, ?_, ?_, ⟨by omega, v1⟩, ?_⟩
  · unfold GS0; rw [hN]; exact a1
  · rw [hN]; exact a2
  · unfold OP; rw [hN]; exact a3
  · unfold LI; rw [hN]; exact a4
  · exact a5 rfl
theorem ECo_50 {P : Prop} {s : rS} {k : Nat} {g : Nat → Int → Int} {it d lo x y e : Int} (b : Int) (G : Im P (GS0 s k g)) (O : Im P (OP s k g it 50 d lo x y e)) (sd : Im P (x ≤ b ∧ y ≤ b ∧ b ≤ 9000)) : ∃ g', Im P (GS0 s k g' ∧ NR s k g' 6 it it lo b d ∧ KC g g' it) := by
  refine imx g (fun hp => ?_)
  have q := sd hp
  have o' := O hp
  obtain ⟨g', a1, a2, a3, a4⟩ := GI.close (b := b) (S := 6) (G hp) o' ⟨q.1, q.2.1, by omega⟩ (by show (50 ≤ ((50 : Nat) : Int) ∧ ((50 : Nat) : Int) ≤ 51); omega) (fun h => absurd h (by decide)) (fun h => absurd h (by decide))
  exact ⟨g', a1, a2, o'.2.2.2.1, fun j m hj => by
    by_cases e : m = it
    · subst e; exact a4 j (by omega)
    · exact a3 j m e⟩
theorem ENo_51 {P : Prop} {s t : rS} {k : Nat} {g : Nat → Int → Int} {r x2 x3 : Int} (b d : Int) (hk : rgk k) (G : Im P (GS0 s k g)) (R : Im P (RG s t k 0)) (hr : r = rF s k 7) (hN : rF t k 7 = rF s k 7 + 1) (h0 : tr t k 0 r = 51) (h1 : tr t k 1 r = x2) (h2 : tr t k 2 r = x3) (h5 : tr t k 5 r = 0) (sd : Im P (0 < rF s k 7 ∧ (0 ≤ b ∧ b ≤ 9000) ∧ (-1 ≤ d ∧ d ≤ 21) ∧ rF s k 12 ≤ rF t k 12 ∧ (x2 = 0) ∧ (True))) : ∃ g', Im P (GS0 t k g' ∧ GK g g' (rF s k 7) (rF t k 7) 0 ∧ OP t k g' r 51 d b (-1) b 0 ∧ g' 6 r = 0) := by
  refine imx g (fun hp => ?_)
  obtain ⟨q1, q2, q3, q4, q5, q6⟩ := sd hp
  subst hr
  have hs : gS (tr t k) (rF t k 12) (gnw g (rF s k 7) 51 b d) (rF s k 7) := by
    unfold gS; simp only [gnw_N, h0, h1, h2]
    refine ⟨by simp, by simp; omega, by simp; omega, by simp; omega, by simp, by simp; omega, by simp; omega, by simp, by simp, by simp, by simp, by simp; try omega, ?_, ?_, by simp, by simp, by simp⟩ <;> first | (intro _; omega) | simp
  have A := GI.new (nm := rF t k 12) (K := 51) (b := b) (d := d) (GI.mv (t' := tr s k) (G hp) (fun _ _ _ _ _ => rfl) rfl q4) q1 (fun f i hf _ hi => RG.f hk (R hp) hf hi (Or.inr (Or.inl rfl))) h5 (fun f hf => by
    have hb := tb_ok hf
    have : f = 1 ∨ f = 2 ∨ f = 3 := by omega
    rcases this with rfl | rfl | rfl
    · first | exact absurd hf (by decide) | (rw [h1]; omega)
    · first | exact absurd hf (by decide) | (rw [h2]; omega)
    · first | exact absurd hf (by decide) | skip) hs
  refine ⟨gnw g (rF s k 7) 51 b d, ?_, ?_, ?_, ?_⟩
  · unfold GS0; rw [hN]; exact A.1
  · rw [hN]; exact A.2.1
  · unfold OP; rw [hN]; exact A.2.2
  · rw [gnw_N]; simp
theorem ECo_51 {P : Prop} {s : rS} {k : Nat} {g : Nat → Int → Int} {it d lo x y e : Int} (b : Int) (G : Im P (GS0 s k g)) (O : Im P (OP s k g it 51 d lo x y e)) (sd : Im P (x ≤ b ∧ y ≤ b ∧ b ≤ 9000)) : ∃ g', Im P (GS0 s k g' ∧ NR s k g' 6 it it lo b d ∧ KC g g' it) := by
  refine imx g (fun hp => ?_)
  have q := sd hp
  have o' := O hp
  obtain ⟨g', a1, a2, a3, a4⟩ := GI.close (b := b) (S := 6) (G hp) o' ⟨q.1, q.2.1, by omega⟩ (by show (50 ≤ ((51 : Nat) : Int) ∧ ((51 : Nat) : Int) ≤ 51); omega) (fun h => absurd h (by decide)) (fun h => absurd h (by decide))
  exact ⟨g', a1, a2, o'.2.2.2.1, fun j m hj => by
    by_cases e : m = it
    · subst e; exact a4 j (by omega)
    · exact a3 j m e⟩
theorem ENo_52 {P : Prop} {s t : rS} {k : Nat} {g : Nat → Int → Int} {r x2 x3 : Int} (b d : Int) (hk : rgk k) (G : Im P (GS0 s k g)) (R : Im P (RG s t k 0)) (hr : r = rF s k 7) (hN : rF t k 7 = rF s k 7 + 1) (h0 : tr t k 0 r = 52) (h1 : tr t k 1 r = x2) (h2 : tr t k 2 r = x3) (h5 : tr t k 5 r = 0) (sd : Im P (0 < rF s k 7 ∧ (0 ≤ b ∧ b ≤ 9000) ∧ (-1 ≤ d ∧ d ≤ 21) ∧ rF s k 12 ≤ rF t k 12 ∧ (True) ∧ (0 ≤ x2 ∧ x2 < rF t k 12))) : ∃ g', Im P (GS0 t k g' ∧ GK g g' (rF s k 7) (rF t k 7) 0 ∧ OP t k g' r 52 d b (-1) b 0 ∧ g' 6 r = 0) := by
  refine imx g (fun hp => ?_)
  obtain ⟨q1, q2, q3, q4, q5, q6⟩ := sd hp
  subst hr
  have hs : gS (tr t k) (rF t k 12) (gnw g (rF s k 7) 52 b d) (rF s k 7) := by
    unfold gS; simp only [gnw_N, h0, h1, h2]
    refine ⟨by simp, by simp; omega, by simp; omega, by simp; omega, by simp, by simp; omega, by simp; omega, by simp, by simp, by simp, by simp, by simp; try omega, ?_, ?_, by simp, by simp, by simp⟩ <;> first | (intro _; omega) | simp
  have A := GI.new (nm := rF t k 12) (K := 52) (b := b) (d := d) (GI.mv (t' := tr s k) (G hp) (fun _ _ _ _ _ => rfl) rfl q4) q1 (fun f i hf _ hi => RG.f hk (R hp) hf hi (Or.inr (Or.inl rfl))) h5 (fun f hf => by
    have hb := tb_ok hf
    have : f = 1 ∨ f = 2 ∨ f = 3 := by omega
    rcases this with rfl | rfl | rfl
    · first | exact absurd hf (by decide) | (rw [h1]; omega)
    · first | exact absurd hf (by decide) | (rw [h2]; omega)
    · first | exact absurd hf (by decide) | skip) hs
  refine ⟨gnw g (rF s k 7) 52 b d, ?_, ?_, ?_, ?_⟩
  · unfold GS0; rw [hN]; exact A.1
  · rw [hN]; exact A.2.1
  · unfold OP; rw [hN]; exact A.2.2
  · rw [gnw_N]; simp
theorem ECo_52 {P : Prop} {s : rS} {k : Nat} {g : Nat → Int → Int} {it d lo x y e : Int} (b : Int) (G : Im P (GS0 s k g)) (O : Im P (OP s k g it 52 d lo x y e)) (sd : Im P (x ≤ b ∧ y ≤ b ∧ b ≤ 9000)) : ∃ g', Im P (GS0 s k g' ∧ NR s k g' 9 it it lo b d ∧ KC g g' it) := by
  refine imx g (fun hp => ?_)
  have q := sd hp
  have o' := O hp
  obtain ⟨g', a1, a2, a3, a4⟩ := GI.close (b := b) (S := 9) (G hp) o' ⟨q.1, q.2.1, by omega⟩ (by show (((52 : Nat) : Int) = 52); omega) (fun h => absurd h (by decide)) (fun h => absurd h (by decide))
  exact ⟨g', a1, a2, o'.2.2.2.1, fun j m hj => by
    by_cases e : m = it
    · subst e; exact a4 j (by omega)
    · exact a3 j m e⟩
theorem ENo_53 {P : Prop} {s t : rS} {k : Nat} {g : Nat → Int → Int} {r x2 x3 : Int} (b d : Int) (hk : rgk k) (G : Im P (GS0 s k g)) (R : Im P (RG s t k 0)) (hr : r = rF s k 7) (hN : rF t k 7 = rF s k 7 + 1) (h0 : tr t k 0 r = 53) (h1 : tr t k 1 r = x2) (h2 : tr t k 2 r = x3) (h5 : tr t k 5 r = 0) (sd : Im P (0 < rF s k 7 ∧ (0 ≤ b ∧ b ≤ 9000) ∧ (-1 ≤ d ∧ d ≤ 21) ∧ rF s k 12 ≤ rF t k 12 ∧ (x3 = 0) ∧ (True))) : ∃ g', Im P (GS0 t k g' ∧ GK g g' (rF s k 7) (rF t k 7) 0 ∧ OP t k g' r 53 d b (-1) b 0 ∧ g' 6 r = 0) := by
  refine imx g (fun hp => ?_)
  obtain ⟨q1, q2, q3, q4, q5, q6⟩ := sd hp
  subst hr
  have hs : gS (tr t k) (rF t k 12) (gnw g (rF s k 7) 53 b d) (rF s k 7) := by
    unfold gS; simp only [gnw_N, h0, h1, h2]
    refine ⟨by simp, by simp; omega, by simp; omega, by simp; omega, by simp, by simp; omega, by simp; omega, by simp, by simp, by simp, by simp, by simp; try omega, ?_, ?_, by simp, by simp, by simp⟩ <;> first | (intro _; omega) | simp
  have A := GI.new (nm := rF t k 12) (K := 53) (b := b) (d := d) (GI.mv (t' := tr s k) (G hp) (fun _ _ _ _ _ => rfl) rfl q4) q1 (fun f i hf _ hi => RG.f hk (R hp) hf hi (Or.inr (Or.inl rfl))) h5 (fun f hf => by
    have hb := tb_ok hf
    have : f = 1 ∨ f = 2 ∨ f = 3 := by omega
    rcases this with rfl | rfl | rfl
    · first | exact absurd hf (by decide) | (rw [h1]; omega)
    · first | exact absurd hf (by decide) | (rw [h2]; omega)
    · first | exact absurd hf (by decide) | skip) hs
  refine ⟨gnw g (rF s k 7) 53 b d, ?_, ?_, ?_, ?_⟩
  · unfold GS0; rw [hN]; exact A.1
  · rw [hN]; exact A.2.1
  · unfold OP; rw [hN]; exact A.2.2
  · rw [gnw_N]; simp
theorem ECo_53 {P : Prop} {s : rS} {k : Nat} {g : Nat → Int → Int} {it d lo x y e : Int} (b : Int) (G : Im P (GS0 s k g)) (O : Im P (OP s k g it 53 d lo x y e)) (sd : Im P (x ≤ b ∧ y ≤ b ∧ b ≤ 9000)) : ∃ g', Im P (GS0 s k g' ∧ NR s k g' 8 it it lo b d ∧ KC g g' it) := by
  refine imx g (fun hp => ?_)
  have q := sd hp
  have o' := O hp
  obtain ⟨g', a1, a2, a3, a4⟩ := GI.close (b := b) (S := 8) (G hp) o' ⟨q.1, q.2.1, by omega⟩ (by show (((53 : Nat) : Int) = 53); omega) (fun h => absurd h (by decide)) (fun h => absurd h (by decide))
  exact ⟨g', a1, a2, o'.2.2.2.1, fun j m hj => by
    by_cases e : m = it
    · subst e; exact a4 j (by omega)
    · exact a3 j m e⟩
theorem ENo_54 {P : Prop} {s t : rS} {k : Nat} {g : Nat → Int → Int} {r x2 x3 : Int} (b d : Int) (hk : rgk k) (G : Im P (GS0 s k g)) (R : Im P (RG s t k 0)) (hr : r = rF s k 7) (hN : rF t k 7 = rF s k 7 + 1) (h0 : tr t k 0 r = 54) (h1 : tr t k 1 r = x2) (h2 : tr t k 2 r = x3) (h3 : tr t k 3 r = 0) (h5 : tr t k 5 r = 0) (sd : Im P (0 < rF s k 7 ∧ (0 ≤ b ∧ b ≤ 9000) ∧ (-1 ≤ d ∧ d ≤ 21) ∧ rF s k 12 ≤ rF t k 12 ∧ (True) ∧ (0 ≤ x2 ∧ 0 ≤ x3 ∧ x3 ≤ 4000 ∧ x2 + x3 ≤ 60000))) : ∃ g', Im P (GS0 t k g' ∧ GK g g' (rF s k 7) (rF t k 7) 0 ∧ OP t k g' r 54 d b (-1) b 0 ∧ g' 6 r = 0) := by
  refine imx g (fun hp => ?_)
  obtain ⟨q1, q2, q3, q4, q5, q6⟩ := sd hp
  subst hr
  have hs : gS (tr t k) (rF t k 12) (gnw g (rF s k 7) 54 b d) (rF s k 7) := by
    unfold gS; simp only [gnw_N, h0, h1, h2, h3]
    refine ⟨by simp, by simp; omega, by simp; omega, by simp; omega, by simp, by simp; omega, by simp; omega, by simp, by simp, by simp, by simp, by simp; try omega, ?_, ?_, by simp, by simp, by simp⟩ <;> first | (intro _; omega) | simp
  have A := GI.new (nm := rF t k 12) (K := 54) (b := b) (d := d) (GI.mv (t' := tr s k) (G hp) (fun _ _ _ _ _ => rfl) rfl q4) q1 (fun f i hf _ hi => RG.f hk (R hp) hf hi (Or.inr (Or.inl rfl))) h5 (fun f hf => by
    have hb := tb_ok hf
    have : f = 1 ∨ f = 2 ∨ f = 3 := by omega
    rcases this with rfl | rfl | rfl
    · first | exact absurd hf (by decide) | (rw [h1]; omega)
    · first | exact absurd hf (by decide) | (rw [h2]; omega)
    · first | exact absurd hf (by decide) | (rw [h3]; omega)) hs
  refine ⟨gnw g (rF s k 7) 54 b d, ?_, ?_, ?_, ?_⟩
  · unfold GS0; rw [hN]; exact A.1
  · rw [hN]; exact A.2.1
  · unfold OP; rw [hN]; exact A.2.2
  · rw [gnw_N]; simp
theorem ECo_54 {P : Prop} {s : rS} {k : Nat} {g : Nat → Int → Int} {it d lo x y e : Int} (b : Int) (G : Im P (GS0 s k g)) (O : Im P (OP s k g it 54 d lo x y e)) (sd : Im P (x ≤ b ∧ y ≤ b ∧ b ≤ 9000)) : ∃ g', Im P (GS0 s k g' ∧ NR s k g' 18 it it lo b d ∧ KC g g' it) := by
  refine imx g (fun hp => ?_)
  have q := sd hp
  have o' := O hp
  obtain ⟨g', a1, a2, a3, a4⟩ := GI.close (b := b) (S := 18) (G hp) o' ⟨q.1, q.2.1, by omega⟩ (by show (((54 : Nat) : Int) = 54); omega) (fun h => absurd h (by decide)) (fun h => absurd h (by decide))
  exact ⟨g', a1, a2, o'.2.2.2.1, fun j m hj => by
    by_cases e : m = it
    · subst e; exact a4 j (by omega)
    · exact a3 j m e⟩
theorem ENo_55 {P : Prop} {s t : rS} {k : Nat} {g : Nat → Int → Int} {r x2 x3 : Int} (b d : Int) (hk : rgk k) (G : Im P (GS0 s k g)) (R : Im P (RG s t k 0)) (hr : r = rF s k 7) (hN : rF t k 7 = rF s k 7 + 1) (h0 : tr t k 0 r = 55) (h1 : tr t k 1 r = x2) (h2 : tr t k 2 r = x3) (h5 : tr t k 5 r = 0) (sd : Im P (0 < rF s k 7 ∧ (0 ≤ b ∧ b ≤ 9000) ∧ (-1 ≤ d ∧ d ≤ 21) ∧ rF s k 12 ≤ rF t k 12 ∧ (x2 = 0) ∧ (True))) : ∃ g', Im P (GS0 t k g' ∧ GK g g' (rF s k 7) (rF t k 7) 0 ∧ OP t k g' r 55 d b (-1) b 0 ∧ g' 6 r = 0) := by
  refine imx g (fun hp => ?_)
  obtain ⟨q1, q2, q3, q4, q5, q6⟩ := sd hp
  subst hr
  have hs : gS (tr t k) (rF t k 12) (gnw g (rF s k 7) 55 b d) (rF s k 7) := by
    unfold gS; simp only [gnw_N, h0, h1, h2]
    refine ⟨by simp, by simp; omega, by simp; omega, by simp; omega, by simp, by simp; omega, by simp; omega, by simp, by simp, by simp, by simp, by simp; try omega, ?_, ?_, by simp, by simp, by simp⟩ <;> first | (intro _; omega) | simp
  have A := GI.new (nm := rF t k 12) (K := 55) (b := b) (d := d) (GI.mv (t' := tr s k) (G hp) (fun _ _ _ _ _ => rfl) rfl q4) q1 (fun f i hf _ hi => RG.f hk (R hp) hf hi (Or.inr (Or.inl rfl))) h5 (fun f hf => by
    have hb := tb_ok hf
    have : f = 1 ∨ f = 2 ∨ f = 3 := by omega
    rcases this with rfl | rfl | rfl
    · first | exact absurd hf (by decide) | (rw [h1]; omega)
    · first | exact absurd hf (by decide) | (rw [h2]; omega)
    · first | exact absurd hf (by decide) | skip) hs
  refine ⟨gnw g (rF s k 7) 55 b d, ?_, ?_, ?_, ?_⟩
  · unfold GS0; rw [hN]; exact A.1
  · rw [hN]; exact A.2.1
  · unfold OP; rw [hN]; exact A.2.2
  · rw [gnw_N]; simp
theorem EVo_55 {P : Prop} {s t : rS} {k S : Nat} {g : Nat → Int → Int} {r v x3 n0 l h d' : Int} (b d : Int) (hk : rgk k) (G : Im P (GS0 s k g)) (V : Im P (NR s k g S v n0 l h d')) (hso : ∀ q, so S q → so 15 q) (R : Im P (RG s t k 0)) (hr : r = rF s k 7) (hN : rF t k 7 = rF s k 7 + 1) (h0 : tr t k 0 r = 55) (h1 : tr t k 1 r = v) (h2 : tr t k 2 r = x3) (h5 : tr t k 5 r = 0) (sd : Im P (0 < rF s k 7 ∧ (0 ≤ b ∧ b ≤ 9000) ∧ (-1 ≤ d ∧ d ≤ 21) ∧ rF s k 12 ≤ rF t k 12 ∧ (True) ∧ (b ≤ l ∧ 0 ≤ l) ∧ d + 0 ≤ d'))   : ∃ g', Im P (GS0 t k g' ∧ (∀ j, j ≠ 3 → j ≠ 5 → j ≠ 8 → g' j v = g j v) ∧ KV g g' (rF s k 7) (rF t k 7) v ∧ OP t k g' r 55 d b h h 0 ∧ LI t k g' r 1 55 v ∧ (g 2 v ≤ 9000 ∧ g 3 v = 0) ∧ g' 6 r = 0) := by
  refine imx g (fun hp => ?_)
  obtain ⟨q1, q2, q3, q4, q5, q6, q7⟩ := sd hp
  subst hr
  have hs : gS (udt (tr t k) 1 (rF s k 7) 0) (rF t k 12) (gnw g (rF s k 7) 55 b d) (rF s k 7) := by
    have e : ∀ f, f ≠ 1 → udt (tr t k) 1 (rF s k 7) 0 f (rF s k 7) = tr t k f (rF s k 7) := fun f hf => udt_ne (Or.inl hf)
    unfold gS; simp only [gnw_N, e 0 (by decide), e 2 (by decide), e 3 (by decide), e 4 (by decide), h0, h2]
    refine ⟨by simp, by simp; omega, by simp; omega, by simp; omega, by simp, by simp; omega, by simp; omega, by simp, by simp, by simp, by simp, by simp; try omega, by simp, by simp, by simp, by simp, by simp⟩
  have V' := V hp
  obtain ⟨g', a1, a2, a3, a4, a5, a6⟩ := GI.newV (K := 55) (b := b) (d := d) (nm := rF t k 12) (GI.mv (t' := tr s k) (G hp) (fun _ _ _ _ _ => rfl) rfl q4) (V hp) q1 (fun f i hf _ hi => RG.f hk (R hp) hf hi (Or.inr (Or.inl rfl))) h5 h1 (fun f hf1 hf => by
    have hb := tb_ok hf
    have : f = 2 ∨ f = 3 := by omega
    rcases this with rfl | rfl
    · first | exact absurd hf (by decide) | (rw [h2]; omega)
    · first | exact absurd hf (by decide) | skip) hs (by decide) hso q6.1 q6.2 q7 (by decide)
  have v1 := V'.2.2.2.1
  have v2 := V'.2.2.2.2.2.2.1
  have v3 := V'.2.2.2.2.2.2.2.1
  refine ⟨g', ?_, a6, ?_, ?_, ?_, ⟨by omega, v1⟩, ?_⟩
  · unfold GS0; rw [hN]; exact a1
  · rw [hN]; exact a2
  · unfold OP; rw [hN]; exact a3
  · unfold LI; rw [hN]; exact a4
  · exact a5 rfl
theorem ECo_55 {P : Prop} {s : rS} {k : Nat} {g : Nat → Int → Int} {it d lo x y e : Int} (b : Int) (G : Im P (GS0 s k g)) (O : Im P (OP s k g it 55 d lo x y e)) (sd : Im P (x ≤ b ∧ y ≤ b ∧ b ≤ 9000)) : ∃ g', Im P (GS0 s k g' ∧ NR s k g' 14 it it lo b d ∧ KC g g' it) := by
  refine imx g (fun hp => ?_)
  have q := sd hp
  have o' := O hp
  obtain ⟨g', a1, a2, a3, a4⟩ := GI.close (b := b) (S := 14) (G hp) o' ⟨q.1, q.2.1, by omega⟩ (by show (55 ≤ ((55 : Nat) : Int) ∧ ((55 : Nat) : Int) ≤ 59); omega) (fun h => absurd h (by decide)) (fun h => absurd h (by decide))
  exact ⟨g', a1, a2, o'.2.2.2.1, fun j m hj => by
    by_cases e : m = it
    · subst e; exact a4 j (by omega)
    · exact a3 j m e⟩
theorem ENo_56 {P : Prop} {s t : rS} {k : Nat} {g : Nat → Int → Int} {r x2 x3 : Int} (b d : Int) (hk : rgk k) (G : Im P (GS0 s k g)) (R : Im P (RG s t k 0)) (hr : r = rF s k 7) (hN : rF t k 7 = rF s k 7 + 1) (h0 : tr t k 0 r = 56) (h1 : tr t k 1 r = x2) (h2 : tr t k 2 r = x3) (h5 : tr t k 5 r = 0) (sd : Im P (0 < rF s k 7 ∧ (0 ≤ b ∧ b ≤ 9000) ∧ (-1 ≤ d ∧ d ≤ 21) ∧ rF s k 12 ≤ rF t k 12 ∧ (x2 = 0) ∧ (True))) : ∃ g', Im P (GS0 t k g' ∧ GK g g' (rF s k 7) (rF t k 7) 0 ∧ OP t k g' r 56 d b (-1) b 0 ∧ g' 6 r = 0) := by
  refine imx g (fun hp => ?_)
  obtain ⟨q1, q2, q3, q4, q5, q6⟩ := sd hp
  subst hr
  have hs : gS (tr t k) (rF t k 12) (gnw g (rF s k 7) 56 b d) (rF s k 7) := by
    unfold gS; simp only [gnw_N, h0, h1, h2]
    refine ⟨by simp, by simp; omega, by simp; omega, by simp; omega, by simp, by simp; omega, by simp; omega, by simp, by simp, by simp, by simp, by simp; try omega, ?_, ?_, by simp, by simp, by simp⟩ <;> first | (intro _; omega) | simp
  have A := GI.new (nm := rF t k 12) (K := 56) (b := b) (d := d) (GI.mv (t' := tr s k) (G hp) (fun _ _ _ _ _ => rfl) rfl q4) q1 (fun f i hf _ hi => RG.f hk (R hp) hf hi (Or.inr (Or.inl rfl))) h5 (fun f hf => by
    have hb := tb_ok hf
    have : f = 1 ∨ f = 2 ∨ f = 3 := by omega
    rcases this with rfl | rfl | rfl
    · first | exact absurd hf (by decide) | (rw [h1]; omega)
    · first | exact absurd hf (by decide) | (rw [h2]; omega)
    · first | exact absurd hf (by decide) | skip) hs
  refine ⟨gnw g (rF s k 7) 56 b d, ?_, ?_, ?_, ?_⟩
  · unfold GS0; rw [hN]; exact A.1
  · rw [hN]; exact A.2.1
  · unfold OP; rw [hN]; exact A.2.2
  · rw [gnw_N]; simp
theorem EVo_56 {P : Prop} {s t : rS} {k S : Nat} {g : Nat → Int → Int} {r v x3 n0 l h d' : Int} (b d : Int) (hk : rgk k) (G : Im P (GS0 s k g)) (V : Im P (NR s k g S v n0 l h d')) (hso : ∀ q, so S q → so 16 q) (R : Im P (RG s t k 0)) (hr : r = rF s k 7) (hN : rF t k 7 = rF s k 7 + 1) (h0 : tr t k 0 r = 56) (h1 : tr t k 1 r = v) (h2 : tr t k 2 r = x3) (h5 : tr t k 5 r = 0) (sd : Im P (0 < rF s k 7 ∧ (0 ≤ b ∧ b ≤ 9000) ∧ (-1 ≤ d ∧ d ≤ 21) ∧ rF s k 12 ≤ rF t k 12 ∧ (True) ∧ (b ≤ l ∧ 0 ≤ l) ∧ d + 0 ≤ d'))   : ∃ g', Im P (GS0 t k g' ∧ (∀ j, j ≠ 3 → j ≠ 5 → j ≠ 8 → g' j v = g j v) ∧ KV g g' (rF s k 7) (rF t k 7) v ∧ OP t k g' r 56 d b h h 0 ∧ LI t k g' r 1 56 v ∧ (g 2 v ≤ 9000 ∧ g 3 v = 0) ∧ g' 6 r = 0) := by
  refine imx g (fun hp => ?_)
  obtain ⟨q1, q2, q3, q4, q5, q6, q7⟩ := sd hp
  subst hr
  have hs : gS (udt (tr t k) 1 (rF s k 7) 0) (rF t k 12) (gnw g (rF s k 7) 56 b d) (rF s k 7) := by
    have e : ∀ f, f ≠ 1 → udt (tr t k) 1 (rF s k 7) 0 f (rF s k 7) = tr t k f (rF s k 7) := fun f hf => udt_ne (Or.inl hf)
    unfold gS; simp only [gnw_N, e 0 (by decide), e 2 (by decide), e 3 (by decide), e 4 (by decide), h0, h2]
    refine ⟨by simp, by simp; omega, by simp; omega, by simp; omega, by simp, by simp; omega, by simp; omega, by simp, by simp, by simp, by simp, by simp; try omega, by simp, by simp, by simp, by simp, by simp⟩
  have V' := V hp
  obtain ⟨g', a1, a2, a3, a4, a5, a6⟩ := GI.newV (K := 56) (b := b) (d := d) (nm := rF t k 12) (GI.mv (t' := tr s k) (G hp) (fun _ _ _ _ _ => rfl) rfl q4) (V hp) q1 (fun f i hf _ hi => RG.f hk (R hp) hf hi (Or.inr (Or.inl rfl))) h5 h1 (fun f hf1 hf => by
    have hb := tb_ok hf
    have : f = 2 ∨ f = 3 := by omega
    rcases this with rfl | rfl
    · first | exact absurd hf (by decide) | (rw [h2]; omega)
    · first | exact absurd hf (by decide) | skip) hs (by decide) hso q6.1 q6.2 q7 (by decide)
  have v1 := V'.2.2.2.1
  have v2 := V'.2.2.2.2.2.2.1
  have v3 := V'.2.2.2.2.2.2.2.1
  refine ⟨g', ?_, a6, ?_, ?_, ?_, ⟨by omega, v1⟩, ?_⟩
  · unfold GS0; rw [hN]; exact a1
  · rw [hN]; exact a2
  · unfold OP; rw [hN]; exact a3
  · unfold LI; rw [hN]; exact a4
  · exact a5 rfl
theorem ECo_56 {P : Prop} {s : rS} {k : Nat} {g : Nat → Int → Int} {it d lo x y e : Int} (b : Int) (G : Im P (GS0 s k g)) (O : Im P (OP s k g it 56 d lo x y e)) (sd : Im P (x ≤ b ∧ y ≤ b ∧ b ≤ 9000)) : ∃ g', Im P (GS0 s k g' ∧ NR s k g' 15 it it lo b d ∧ KC g g' it) := by
  refine imx g (fun hp => ?_)
  have q := sd hp
  have o' := O hp
  obtain ⟨g', a1, a2, a3, a4⟩ := GI.close (b := b) (S := 15) (G hp) o' ⟨q.1, q.2.1, by omega⟩ (by show (56 ≤ ((56 : Nat) : Int) ∧ ((56 : Nat) : Int) ≤ 59); omega) (fun h => absurd h (by decide)) (fun h => absurd h (by decide))
  exact ⟨g', a1, a2, o'.2.2.2.1, fun j m hj => by
    by_cases e : m = it
    · subst e; exact a4 j (by omega)
    · exact a3 j m e⟩
theorem ENo_57 {P : Prop} {s t : rS} {k : Nat} {g : Nat → Int → Int} {r x2 x3 : Int} (b d : Int) (hk : rgk k) (G : Im P (GS0 s k g)) (R : Im P (RG s t k 0)) (hr : r = rF s k 7) (hN : rF t k 7 = rF s k 7 + 1) (h0 : tr t k 0 r = 57) (h1 : tr t k 1 r = x2) (h2 : tr t k 2 r = x3) (h5 : tr t k 5 r = 0) (sd : Im P (0 < rF s k 7 ∧ (0 ≤ b ∧ b ≤ 9000) ∧ (-1 ≤ d ∧ d ≤ 21) ∧ rF s k 12 ≤ rF t k 12 ∧ (x2 = 0) ∧ (True))) : ∃ g', Im P (GS0 t k g' ∧ GK g g' (rF s k 7) (rF t k 7) 0 ∧ OP t k g' r 57 d b (-1) b 0 ∧ g' 6 r = 0) := by
  refine imx g (fun hp => ?_)
  obtain ⟨q1, q2, q3, q4, q5, q6⟩ := sd hp
  subst hr
  have hs : gS (tr t k) (rF t k 12) (gnw g (rF s k 7) 57 b d) (rF s k 7) := by
    unfold gS; simp only [gnw_N, h0, h1, h2]
    refine ⟨by simp, by simp; omega, by simp; omega, by simp; omega, by simp, by simp; omega, by simp; omega, by simp, by simp, by simp, by simp, by simp; try omega, ?_, ?_, by simp, by simp, by simp⟩ <;> first | (intro _; omega) | simp
  have A := GI.new (nm := rF t k 12) (K := 57) (b := b) (d := d) (GI.mv (t' := tr s k) (G hp) (fun _ _ _ _ _ => rfl) rfl q4) q1 (fun f i hf _ hi => RG.f hk (R hp) hf hi (Or.inr (Or.inl rfl))) h5 (fun f hf => by
    have hb := tb_ok hf
    have : f = 1 ∨ f = 2 ∨ f = 3 := by omega
    rcases this with rfl | rfl | rfl
    · first | exact absurd hf (by decide) | (rw [h1]; omega)
    · first | exact absurd hf (by decide) | (rw [h2]; omega)
    · first | exact absurd hf (by decide) | skip) hs
  refine ⟨gnw g (rF s k 7) 57 b d, ?_, ?_, ?_, ?_⟩
  · unfold GS0; rw [hN]; exact A.1
  · rw [hN]; exact A.2.1
  · unfold OP; rw [hN]; exact A.2.2
  · rw [gnw_N]; simp
theorem EVo_57 {P : Prop} {s t : rS} {k S : Nat} {g : Nat → Int → Int} {r v x3 n0 l h d' : Int} (b d : Int) (hk : rgk k) (G : Im P (GS0 s k g)) (V : Im P (NR s k g S v n0 l h d')) (hso : ∀ q, so S q → so 16 q) (R : Im P (RG s t k 0)) (hr : r = rF s k 7) (hN : rF t k 7 = rF s k 7 + 1) (h0 : tr t k 0 r = 57) (h1 : tr t k 1 r = v) (h2 : tr t k 2 r = x3) (h5 : tr t k 5 r = 0) (sd : Im P (0 < rF s k 7 ∧ (0 ≤ b ∧ b ≤ 9000) ∧ (-1 ≤ d ∧ d ≤ 21) ∧ rF s k 12 ≤ rF t k 12 ∧ (True) ∧ (b ≤ l ∧ 0 ≤ l) ∧ d + 1 ≤ d'))   : ∃ g', Im P (GS0 t k g' ∧ (∀ j, j ≠ 3 → j ≠ 5 → j ≠ 8 → g' j v = g j v) ∧ KV g g' (rF s k 7) (rF t k 7) v ∧ OP t k g' r 57 d b h h 0 ∧ LI t k g' r 1 57 v ∧ (g 2 v ≤ 9000 ∧ g 3 v = 0) ∧ g' 6 r = 0) := by
  refine imx g (fun hp => ?_)
  obtain ⟨q1, q2, q3, q4, q5, q6, q7⟩ := sd hp
  subst hr
  have hs : gS (udt (tr t k) 1 (rF s k 7) 0) (rF t k 12) (gnw g (rF s k 7) 57 b d) (rF s k 7) := by
    have e : ∀ f, f ≠ 1 → udt (tr t k) 1 (rF s k 7) 0 f (rF s k 7) = tr t k f (rF s k 7) := fun f hf => udt_ne (Or.inl hf)
    unfold gS; simp only [gnw_N, e 0 (by decide), e 2 (by decide), e 3 (by decide), e 4 (by decide), h0, h2]
    refine ⟨by simp, by simp; omega, by simp; omega, by simp; omega, by simp, by simp; omega, by simp; omega, by simp, by simp, by simp, by simp, by simp; try omega, by simp, by simp, by simp, by simp, by simp⟩
  have V' := V hp
  obtain ⟨g', a1, a2, a3, a4, a5, a6⟩ := GI.newV (K := 57) (b := b) (d := d) (nm := rF t k 12) (GI.mv (t' := tr s k) (G hp) (fun _ _ _ _ _ => rfl) rfl q4) (V hp) q1 (fun f i hf _ hi => RG.f hk (R hp) hf hi (Or.inr (Or.inl rfl))) h5 h1 (fun f hf1 hf => by
    have hb := tb_ok hf
    have : f = 2 ∨ f = 3 := by omega
    rcases this with rfl | rfl
    · first | exact absurd hf (by decide) | (rw [h2]; omega)
    · first | exact absurd hf (by decide) | skip) hs (by decide) hso q6.1 q6.2 q7 (by decide)
  have v1 := V'.2.2.2.1
  have v2 := V'.2.2.2.2.2.2.1
  have v3 := V'.2.2.2.2.2.2.2.1
  refine ⟨g', ?_, a6, ?_, ?_, ?_, ⟨by omega, v1⟩, ?_⟩
  · unfold GS0; rw [hN]; exact a1
  · rw [hN]; exact a2
  · unfold OP; rw [hN]; exact a3
  · unfold LI; rw [hN]; exact a4
  · exact a5 rfl
theorem ECo_57 {P : Prop} {s : rS} {k : Nat} {g : Nat → Int → Int} {it d lo x y e : Int} (b : Int) (G : Im P (GS0 s k g)) (O : Im P (OP s k g it 57 d lo x y e)) (sd : Im P (x ≤ b ∧ y ≤ b ∧ b ≤ 9000)) : ∃ g', Im P (GS0 s k g' ∧ NR s k g' 16 it it lo b d ∧ KC g g' it) := by
  refine imx g (fun hp => ?_)
  have q := sd hp
  have o' := O hp
  obtain ⟨g', a1, a2, a3, a4⟩ := GI.close (b := b) (S := 16) (G hp) o' ⟨q.1, q.2.1, by omega⟩ (by show (57 ≤ ((57 : Nat) : Int) ∧ ((57 : Nat) : Int) ≤ 59); omega) (fun h => absurd h (by decide)) (fun h => absurd h (by decide))
  exact ⟨g', a1, a2, o'.2.2.2.1, fun j m hj => by
    by_cases e : m = it
    · subst e; exact a4 j (by omega)
    · exact a3 j m e⟩
theorem ENo_58 {P : Prop} {s t : rS} {k : Nat} {g : Nat → Int → Int} {r x2 x3 : Int} (b d : Int) (hk : rgk k) (G : Im P (GS0 s k g)) (R : Im P (RG s t k 0)) (hr : r = rF s k 7) (hN : rF t k 7 = rF s k 7 + 1) (h0 : tr t k 0 r = 58) (h1 : tr t k 1 r = x2) (h2 : tr t k 2 r = x3) (h5 : tr t k 5 r = 0) (sd : Im P (0 < rF s k 7 ∧ (0 ≤ b ∧ b ≤ 9000) ∧ (-1 ≤ d ∧ d ≤ 21) ∧ rF s k 12 ≤ rF t k 12 ∧ (x2 = 0) ∧ (True))) : ∃ g', Im P (GS0 t k g' ∧ GK g g' (rF s k 7) (rF t k 7) 0 ∧ OP t k g' r 58 d b (-1) b 0 ∧ g' 6 r = 0) := by
  refine imx g (fun hp => ?_)
  obtain ⟨q1, q2, q3, q4, q5, q6⟩ := sd hp
  subst hr
  have hs : gS (tr t k) (rF t k 12) (gnw g (rF s k 7) 58 b d) (rF s k 7) := by
    unfold gS; simp only [gnw_N, h0, h1, h2]
    refine ⟨by simp, by simp; omega, by simp; omega, by simp; omega, by simp, by simp; omega, by simp; omega, by simp, by simp, by simp, by simp, by simp; try omega, ?_, ?_, by simp, by simp, by simp⟩ <;> first | (intro _; omega) | simp
  have A := GI.new (nm := rF t k 12) (K := 58) (b := b) (d := d) (GI.mv (t' := tr s k) (G hp) (fun _ _ _ _ _ => rfl) rfl q4) q1 (fun f i hf _ hi => RG.f hk (R hp) hf hi (Or.inr (Or.inl rfl))) h5 (fun f hf => by
    have hb := tb_ok hf
    have : f = 1 ∨ f = 2 ∨ f = 3 := by omega
    rcases this with rfl | rfl | rfl
    · first | exact absurd hf (by decide) | (rw [h1]; omega)
    · first | exact absurd hf (by decide) | (rw [h2]; omega)
    · first | exact absurd hf (by decide) | skip) hs
  refine ⟨gnw g (rF s k 7) 58 b d, ?_, ?_, ?_, ?_⟩
  · unfold GS0; rw [hN]; exact A.1
  · rw [hN]; exact A.2.1
  · unfold OP; rw [hN]; exact A.2.2
  · rw [gnw_N]; simp
theorem EVo_58 {P : Prop} {s t : rS} {k S : Nat} {g : Nat → Int → Int} {r v x3 n0 l h d' : Int} (b d : Int) (hk : rgk k) (G : Im P (GS0 s k g)) (V : Im P (NR s k g S v n0 l h d')) (hso : ∀ q, so S q → so 1 q) (R : Im P (RG s t k 0)) (hr : r = rF s k 7) (hN : rF t k 7 = rF s k 7 + 1) (h0 : tr t k 0 r = 58) (h1 : tr t k 1 r = v) (h2 : tr t k 2 r = x3) (h5 : tr t k 5 r = 0) (sd : Im P (0 < rF s k 7 ∧ (0 ≤ b ∧ b ≤ 9000) ∧ (-1 ≤ d ∧ d ≤ 21) ∧ rF s k 12 ≤ rF t k 12 ∧ (True) ∧ (b ≤ l ∧ 0 ≤ l) ∧ d + (-100) ≤ d'))   : ∃ g', Im P (GS0 t k g' ∧ (∀ j, j ≠ 3 → j ≠ 5 → j ≠ 8 → g' j v = g j v) ∧ KV g g' (rF s k 7) (rF t k 7) v ∧ OP t k g' r 58 d b h h 0 ∧ LI t k g' r 1 58 v ∧ (g 2 v ≤ 9000 ∧ g 3 v = 0) ∧ g' 6 r = 0) := by
  refine imx g (fun hp => ?_)
  obtain ⟨q1, q2, q3, q4, q5, q6, q7⟩ := sd hp
  subst hr
  have hs : gS (udt (tr t k) 1 (rF s k 7) 0) (rF t k 12) (gnw g (rF s k 7) 58 b d) (rF s k 7) := by
    have e : ∀ f, f ≠ 1 → udt (tr t k) 1 (rF s k 7) 0 f (rF s k 7) = tr t k f (rF s k 7) := fun f hf => udt_ne (Or.inl hf)
    unfold gS; simp only [gnw_N, e 0 (by decide), e 2 (by decide), e 3 (by decide), e 4 (by decide), h0, h2]
    refine ⟨by simp, by simp; omega, by simp; omega, by simp; omega, by simp, by simp; omega, by simp; omega, by simp, by simp, by simp, by simp, by simp; try omega, by simp, by simp, by simp, by simp, by simp⟩
  have V' := V hp
  obtain ⟨g', a1, a2, a3, a4, a5, a6⟩ := GI.newV (K := 58) (b := b) (d := d) (nm := rF t k 12) (GI.mv (t' := tr s k) (G hp) (fun _ _ _ _ _ => rfl) rfl q4) (V hp) q1 (fun f i hf _ hi => RG.f hk (R hp) hf hi (Or.inr (Or.inl rfl))) h5 h1 (fun f hf1 hf => by
    have hb := tb_ok hf
    have : f = 2 ∨ f = 3 := by omega
    rcases this with rfl | rfl
    · first | exact absurd hf (by decide) | (rw [h2]; omega)
    · first | exact absurd hf (by decide) | skip) hs (by decide) hso q6.1 q6.2 q7 (by decide)
  have v1 := V'.2.2.2.1
  have v2 := V'.2.2.2.2.2.2.1
  have v3 := V'.2.2.2.2.2.2.2.1
  refine ⟨g', ?_, a6, ?_, ?_, ?_, ⟨by omega, v1⟩, ?_⟩
  · unfold GS0; rw [hN]; exact a1
  · rw [hN]; exact a2
  · unfold OP; rw [hN]; exact a3
  · unfold LI; rw [hN]; exact a4
  · exact a5 rfl
theorem ECo_58 {P : Prop} {s : rS} {k : Nat} {g : Nat → Int → Int} {it d lo x y e : Int} (b : Int) (G : Im P (GS0 s k g)) (O : Im P (OP s k g it 58 d lo x y e)) (sd : Im P (x ≤ b ∧ y ≤ b ∧ b ≤ 9000)) : ∃ g', Im P (GS0 s k g' ∧ NR s k g' 16 it it lo b d ∧ KC g g' it) := by
  refine imx g (fun hp => ?_)
  have q := sd hp
  have o' := O hp
  obtain ⟨g', a1, a2, a3, a4⟩ := GI.close (b := b) (S := 16) (G hp) o' ⟨q.1, q.2.1, by omega⟩ (by show (57 ≤ ((58 : Nat) : Int) ∧ ((58 : Nat) : Int) ≤ 59); omega) (fun h => absurd h (by decide)) (fun h => absurd h (by decide))
  exact ⟨g', a1, a2, o'.2.2.2.1, fun j m hj => by
    by_cases e : m = it
    · subst e; exact a4 j (by omega)
    · exact a3 j m e⟩
theorem ENo_59 {P : Prop} {s t : rS} {k : Nat} {g : Nat → Int → Int} {r x2 x3 : Int} (b d : Int) (hk : rgk k) (G : Im P (GS0 s k g)) (R : Im P (RG s t k 0)) (hr : r = rF s k 7) (hN : rF t k 7 = rF s k 7 + 1) (h0 : tr t k 0 r = 59) (h1 : tr t k 1 r = x2) (h2 : tr t k 2 r = x3) (h5 : tr t k 5 r = 0) (sd : Im P (0 < rF s k 7 ∧ (0 ≤ b ∧ b ≤ 9000) ∧ (-1 ≤ d ∧ d ≤ 21) ∧ rF s k 12 ≤ rF t k 12 ∧ (x2 = 0) ∧ (True))) : ∃ g', Im P (GS0 t k g' ∧ GK g g' (rF s k 7) (rF t k 7) 0 ∧ OP t k g' r 59 d b (-1) b 0 ∧ g' 6 r = 0) := by
  refine imx g (fun hp => ?_)
  obtain ⟨q1, q2, q3, q4, q5, q6⟩ := sd hp
  subst hr
  have hs : gS (tr t k) (rF t k 12) (gnw g (rF s k 7) 59 b d) (rF s k 7) := by
    unfold gS; simp only [gnw_N, h0, h1, h2]
    refine ⟨by simp, by simp; omega, by simp; omega, by simp; omega, by simp, by simp; omega, by simp; omega, by simp, by simp, by simp, by simp, by simp; try omega, ?_, ?_, by simp, by simp, by simp⟩ <;> first | (intro _; omega) | simp
  have A := GI.new (nm := rF t k 12) (K := 59) (b := b) (d := d) (GI.mv (t' := tr s k) (G hp) (fun _ _ _ _ _ => rfl) rfl q4) q1 (fun f i hf _ hi => RG.f hk (R hp) hf hi (Or.inr (Or.inl rfl))) h5 (fun f hf => by
    have hb := tb_ok hf
    have : f = 1 ∨ f = 2 ∨ f = 3 := by omega
    rcases this with rfl | rfl | rfl
    · first | exact absurd hf (by decide) | (rw [h1]; omega)
    · first | exact absurd hf (by decide) | (rw [h2]; omega)
    · first | exact absurd hf (by decide) | skip) hs
  refine ⟨gnw g (rF s k 7) 59 b d, ?_, ?_, ?_, ?_⟩
  · unfold GS0; rw [hN]; exact A.1
  · rw [hN]; exact A.2.1
  · unfold OP; rw [hN]; exact A.2.2
  · rw [gnw_N]; simp
theorem EVo_59 {P : Prop} {s t : rS} {k S : Nat} {g : Nat → Int → Int} {r v x3 n0 l h d' : Int} (b d : Int) (hk : rgk k) (G : Im P (GS0 s k g)) (V : Im P (NR s k g S v n0 l h d')) (hso : ∀ q, so S q → so 14 q) (R : Im P (RG s t k 0)) (hr : r = rF s k 7) (hN : rF t k 7 = rF s k 7 + 1) (h0 : tr t k 0 r = 59) (h1 : tr t k 1 r = v) (h2 : tr t k 2 r = x3) (h5 : tr t k 5 r = 0) (sd : Im P (0 < rF s k 7 ∧ (0 ≤ b ∧ b ≤ 9000) ∧ (-1 ≤ d ∧ d ≤ 21) ∧ rF s k 12 ≤ rF t k 12 ∧ (True) ∧ (b ≤ l ∧ 0 ≤ l) ∧ d + 1 ≤ d'))   : ∃ g', Im P (GS0 t k g' ∧ (∀ j, j ≠ 3 → j ≠ 5 → j ≠ 8 → g' j v = g j v) ∧ KV g g' (rF s k 7) (rF t k 7) v ∧ OP t k g' r 59 d b h h 0 ∧ LI t k g' r 1 59 v ∧ (g 2 v ≤ 9000 ∧ g 3 v = 0) ∧ g' 6 r = 0) := by
  refine imx g (fun hp => ?_)
  obtain ⟨q1, q2, q3, q4, q5, q6, q7⟩ := sd hp
  subst hr
  have hs : gS (udt (tr t k) 1 (rF s k 7) 0) (rF t k 12) (gnw g (rF s k 7) 59 b d) (rF s k 7) := by
    have e : ∀ f, f ≠ 1 → udt (tr t k) 1 (rF s k 7) 0 f (rF s k 7) = tr t k f (rF s k 7) := fun f hf => udt_ne (Or.inl hf)
    unfold gS; simp only [gnw_N, e 0 (by decide), e 2 (by decide), e 3 (by decide), e 4 (by decide), h0, h2]
    refine ⟨by simp, by simp; omega, by simp; omega, by simp; omega, by simp, by simp; omega, by simp; omega, by simp, by simp, by simp, by simp, by simp; try omega, by simp, by simp, by simp, by simp, by simp⟩
  have V' := V hp
  obtain ⟨g', a1, a2, a3, a4, a5, a6⟩ := GI.newV (K := 59) (b := b) (d := d) (nm := rF t k 12) (GI.mv (t' := tr s k) (G hp) (fun _ _ _ _ _ => rfl) rfl q4) (V hp) q1 (fun f i hf _ hi => RG.f hk (R hp) hf hi (Or.inr (Or.inl rfl))) h5 h1 (fun f hf1 hf => by
    have hb := tb_ok hf
    have : f = 2 ∨ f = 3 := by omega
    rcases this with rfl | rfl
    · first | exact absurd hf (by decide) | (rw [h2]; omega)
    · first | exact absurd hf (by decide) | skip) hs (by decide) hso q6.1 q6.2 q7 (by decide)
  have v1 := V'.2.2.2.1
  have v2 := V'.2.2.2.2.2.2.1
  have v3 := V'.2.2.2.2.2.2.2.1
  refine ⟨g', ?_, a6, ?_, ?_, ?_, ⟨by omega, v1⟩, ?_⟩
  · unfold GS0; rw [hN]; exact a1
  · rw [hN]; exact a2
  · unfold OP; rw [hN]; exact a3
  · unfold LI; rw [hN]; exact a4
  · exact a5 rfl
theorem ECo_59 {P : Prop} {s : rS} {k : Nat} {g : Nat → Int → Int} {it d lo x y e : Int} (b : Int) (G : Im P (GS0 s k g)) (O : Im P (OP s k g it 59 d lo x y e)) (sd : Im P (x ≤ b ∧ y ≤ b ∧ b ≤ 9000)) : ∃ g', Im P (GS0 s k g' ∧ NR s k g' 16 it it lo b d ∧ KC g g' it) := by
  refine imx g (fun hp => ?_)
  have q := sd hp
  have o' := O hp
  obtain ⟨g', a1, a2, a3, a4⟩ := GI.close (b := b) (S := 16) (G hp) o' ⟨q.1, q.2.1, by omega⟩ (by show (57 ≤ ((59 : Nat) : Int) ∧ ((59 : Nat) : Int) ≤ 59); omega) (fun h => absurd h (by decide)) (fun h => absurd h (by decide))
  exact ⟨g', a1, a2, o'.2.2.2.1, fun j m hj => by
    by_cases e : m = it
    · subst e; exact a4 j (by omega)
    · exact a3 j m e⟩
theorem ENo_60 {P : Prop} {s t : rS} {k : Nat} {g : Nat → Int → Int} {r x2 x3 : Int} (b d : Int) (hk : rgk k) (G : Im P (GS0 s k g)) (R : Im P (RG s t k 0)) (hr : r = rF s k 7) (hN : rF t k 7 = rF s k 7 + 1) (h0 : tr t k 0 r = 59) (h1 : tr t k 1 r = x2) (h2 : tr t k 2 r = x3) (h5 : tr t k 5 r = 0) (sd : Im P (0 < rF s k 7 ∧ (0 ≤ b ∧ b ≤ 9000) ∧ (-1 ≤ d ∧ d ≤ 21) ∧ rF s k 12 ≤ rF t k 12 ∧ (x2 = 0) ∧ (True))) : ∃ g', Im P (GS0 t k g' ∧ GK g g' (rF s k 7) (rF t k 7) 0 ∧ OP t k g' r 60 d b (-1) b 0 ∧ g' 6 r = 0) := by
  refine imx g (fun hp => ?_)
  obtain ⟨q1, q2, q3, q4, q5, q6⟩ := sd hp
  subst hr
  have hs : gS (tr t k) (rF t k 12) (gnw g (rF s k 7) 60 b d) (rF s k 7) := by
    unfold gS; simp only [gnw_N, h0, h1, h2]
    refine ⟨by simp, by simp; omega, by simp; omega, by simp; omega, by simp, by simp; omega, by simp; omega, by simp, by simp, by simp, by simp, by simp; try omega, ?_, ?_, by simp, by simp, by simp⟩ <;> first | (intro _; omega) | simp
  have A := GI.new (nm := rF t k 12) (K := 60) (b := b) (d := d) (GI.mv (t' := tr s k) (G hp) (fun _ _ _ _ _ => rfl) rfl q4) q1 (fun f i hf _ hi => RG.f hk (R hp) hf hi (Or.inr (Or.inl rfl))) h5 (fun f hf => by
    have hb := tb_ok hf
    have : f = 1 ∨ f = 2 ∨ f = 3 := by omega
    rcases this with rfl | rfl | rfl
    · first | exact absurd hf (by decide) | (rw [h1]; omega)
    · first | exact absurd hf (by decide) | (rw [h2]; omega)
    · first | exact absurd hf (by decide) | skip) hs
  refine ⟨gnw g (rF s k 7) 60 b d, ?_, ?_, ?_, ?_⟩
  · unfold GS0; rw [hN]; exact A.1
  · rw [hN]; exact A.2.1
  · unfold OP; rw [hN]; exact A.2.2
  · rw [gnw_N]; simp
theorem EVo_60 {P : Prop} {s t : rS} {k S : Nat} {g : Nat → Int → Int} {r v x3 n0 l h d' : Int} (b d : Int) (hk : rgk k) (G : Im P (GS0 s k g)) (V : Im P (NR s k g S v n0 l h d')) (hso : ∀ q, so S q → so 1 q) (R : Im P (RG s t k 0)) (hr : r = rF s k 7) (hN : rF t k 7 = rF s k 7 + 1) (h0 : tr t k 0 r = 59) (h1 : tr t k 1 r = v) (h2 : tr t k 2 r = x3) (h5 : tr t k 5 r = 0) (sd : Im P (0 < rF s k 7 ∧ (0 ≤ b ∧ b ≤ 9000) ∧ (-1 ≤ d ∧ d ≤ 21) ∧ rF s k 12 ≤ rF t k 12 ∧ (True) ∧ (b ≤ l ∧ 0 ≤ l) ∧ d + 1 ≤ d'))   : ∃ g', Im P (GS0 t k g' ∧ (∀ j, j ≠ 3 → j ≠ 5 → j ≠ 8 → g' j v = g j v) ∧ KV g g' (rF s k 7) (rF t k 7) v ∧ OP t k g' r 60 d b h h 0 ∧ LI t k g' r 1 60 v ∧ (g 2 v ≤ 9000 ∧ g 3 v = 0) ∧ g' 6 r = 0) := by
  refine imx g (fun hp => ?_)
  obtain ⟨q1, q2, q3, q4, q5, q6, q7⟩ := sd hp
  subst hr
  have hs : gS (udt (tr t k) 1 (rF s k 7) 0) (rF t k 12) (gnw g (rF s k 7) 60 b d) (rF s k 7) := by
    have e : ∀ f, f ≠ 1 → udt (tr t k) 1 (rF s k 7) 0 f (rF s k 7) = tr t k f (rF s k 7) := fun f hf => udt_ne (Or.inl hf)
    unfold gS; simp only [gnw_N, e 0 (by decide), e 2 (by decide), e 3 (by decide), e 4 (by decide), h0, h2]
    refine ⟨by simp, by simp; omega, by simp; omega, by simp; omega, by simp, by simp; omega, by simp; omega, by simp, by simp, by simp, by simp, by simp; try omega, by simp, by simp, by simp, by simp, by simp⟩
  have V' := V hp
  obtain ⟨g', a1, a2, a3, a4, a5, a6⟩ := GI.newV (K := 60) (b := b) (d := d) (nm := rF t k 12) (GI.mv (t' := tr s k) (G hp) (fun _ _ _ _ _ => rfl) rfl q4) (V hp) q1 (fun f i hf _ hi => RG.f hk (R hp) hf hi (Or.inr (Or.inl rfl))) h5 h1 (fun f hf1 hf => by
    have hb := tb_ok hf
    have : f = 2 ∨ f = 3 := by omega
    rcases this with rfl | rfl
    · first | exact absurd hf (by decide) | (rw [h2]; omega)
    · first | exact absurd hf (by decide) | skip) hs (by decide) hso q6.1 q6.2 q7 (by decide)
  have v1 := V'.2.2.2.1
  have v2 := V'.2.2.2.2.2.2.1
  have v3 := V'.2.2.2.2.2.2.2.1
  refine ⟨g', ?_, a6, ?_, ?_, ?_, ⟨by omega, v1⟩, ?_⟩
  · unfold GS0; rw [hN]; exact a1
  · rw [hN]; exact a2
  · unfold OP; rw [hN]; exact a3
  · unfold LI; rw [hN]; exact a4
  · exact a5 rfl
theorem ECo_60 {P : Prop} {s : rS} {k : Nat} {g : Nat → Int → Int} {it d lo x y e : Int} (b : Int) (G : Im P (GS0 s k g)) (O : Im P (OP s k g it 60 d lo x y e)) (sd : Im P (x ≤ b ∧ y ≤ b ∧ b ≤ 9000)) : ∃ g', Im P (GS0 s k g' ∧ NR s k g' 7 it it lo b d ∧ KC g g' it) := by
  refine imx g (fun hp => ?_)
  have q := sd hp
  have o' := O hp
  obtain ⟨g', a1, a2, a3, a4⟩ := GI.close (b := b) (S := 7) (G hp) o' ⟨q.1, q.2.1, by omega⟩ (by show (((60 : Nat) : Int) = 60); omega) (fun h => absurd h (by decide)) (fun h => absurd h (by decide))
  exact ⟨g', a1, a2, o'.2.2.2.1, fun j m hj => by
    by_cases e : m = it
    · subst e; exact a4 j (by omega)
    · exact a3 j m e⟩
theorem ENo_9 {P : Prop} {s t : rS} {k : Nat} {g : Nat → Int → Int} {r x2 x3 : Int} (b d : Int) (hk : rgk k) (G : Im P (GS0 s k g)) (R : Im P (RG s t k 0)) (hr : r = rF s k 7) (hN : rF t k 7 = rF s k 7 + 1) (h0 : tr t k 0 r = 9) (h1 : tr t k 1 r = x2) (h2 : tr t k 2 r = x3) (h5 : tr t k 5 r = 0) (sd : Im P (0 < rF s k 7 ∧ (0 ≤ b ∧ b ≤ 9000) ∧ (-1 ≤ d ∧ d ≤ 21) ∧ rF s k 12 ≤ rF t k 12 ∧ (x2 = 0) ∧ (True))) : ∃ g', Im P (GS0 t k g' ∧ GK g g' (rF s k 7) (rF t k 7) 0 ∧ OP t k g' r 9 d b (-1) b 0 ∧ g' 6 r = 0) := by
  refine imx g (fun hp => ?_)
  obtain ⟨q1, q2, q3, q4, q5, q6⟩ := sd hp
  subst hr
  have hs : gS (tr t k) (rF t k 12) (gnw g (rF s k 7) 9 b d) (rF s k 7) := by
    unfold gS; simp only [gnw_N, h0, h1, h2]
    refine ⟨by simp, by simp; omega, by simp; omega, by simp; omega, by simp, by simp; omega, by simp; omega, by simp, by simp, by simp, by simp, by simp; try omega, ?_, ?_, by simp, by simp, by simp⟩ <;> first | (intro _; omega) | simp
  have A := GI.new (nm := rF t k 12) (K := 9) (b := b) (d := d) (GI.mv (t' := tr s k) (G hp) (fun _ _ _ _ _ => rfl) rfl q4) q1 (fun f i hf _ hi => RG.f hk (R hp) hf hi (Or.inr (Or.inl rfl))) h5 (fun f hf => by
    have hb := tb_ok hf
    have : f = 1 ∨ f = 2 ∨ f = 3 := by omega
    rcases this with rfl | rfl | rfl
    · first | exact absurd hf (by decide) | (rw [h1]; omega)
    · first | exact absurd hf (by decide) | (rw [h2]; omega)
    · first | exact absurd hf (by decide) | skip) hs
  refine ⟨gnw g (rF s k 7) 9 b d, ?_, ?_, ?_, ?_⟩
  · unfold GS0; rw [hN]; exact A.1
  · rw [hN]; exact A.2.1
  · unfold OP; rw [hN]; exact A.2.2
  · rw [gnw_N]; simp
theorem ECo_9 {P : Prop} {s : rS} {k : Nat} {g : Nat → Int → Int} {it d lo x y e : Int} (b : Int) (G : Im P (GS0 s k g)) (O : Im P (OP s k g it 9 d lo x y e)) (sd : Im P (x ≤ b ∧ y ≤ b ∧ b ≤ 9000)) : ∃ g', Im P (GS0 s k g' ∧ NR s k g' 11 it it lo b d ∧ KC g g' it) := by
  refine imx g (fun hp => ?_)
  have q := sd hp
  have o' := O hp
  obtain ⟨g', a1, a2, a3, a4⟩ := GI.close (b := b) (S := 11) (G hp) o' ⟨q.1, q.2.1, by omega⟩ (by show (((9 : Nat) : Int) = 9); omega) (fun h => absurd h (by decide)) (fun h => absurd h (by decide))
  exact ⟨g', a1, a2, o'.2.2.2.1, fun j m hj => by
    by_cases e : m = it
    · subst e; exact a4 j (by omega)
    · exact a3 j m e⟩
theorem ENo_8 {P : Prop} {s t : rS} {k : Nat} {g : Nat → Int → Int} {r x2 x3 : Int} (b d : Int) (hk : rgk k) (G : Im P (GS0 s k g)) (R : Im P (RG s t k 0)) (hr : r = rF s k 7) (hN : rF t k 7 = rF s k 7 + 1) (h0 : tr t k 0 r = 8) (h1 : tr t k 1 r = x2) (h2 : tr t k 2 r = x3) (h5 : tr t k 5 r = 0) (sd : Im P (0 < rF s k 7 ∧ (0 ≤ b ∧ b ≤ 9000) ∧ (-1 ≤ d ∧ d ≤ 21) ∧ rF s k 12 ≤ rF t k 12 ∧ (x2 = 0 ∧ x3 = 0) ∧ (True))) : ∃ g', Im P (GS0 t k g' ∧ GK g g' (rF s k 7) (rF t k 7) 0 ∧ OP t k g' r 8 d b (-1) b 0 ∧ g' 6 r = 0) := by
  refine imx g (fun hp => ?_)
  obtain ⟨q1, q2, q3, q4, q5, q6⟩ := sd hp
  subst hr
  have hs : gS (tr t k) (rF t k 12) (gnw g (rF s k 7) 8 b d) (rF s k 7) := by
    unfold gS; simp only [gnw_N, h0, h1, h2]
    refine ⟨by simp, by simp; omega, by simp; omega, by simp; omega, by simp, by simp; omega, by simp; omega, by simp, by simp, by simp, by simp, by simp; try omega, ?_, ?_, by simp, by simp, by simp⟩ <;> first | (intro _; omega) | simp
  have A := GI.new (nm := rF t k 12) (K := 8) (b := b) (d := d) (GI.mv (t' := tr s k) (G hp) (fun _ _ _ _ _ => rfl) rfl q4) q1 (fun f i hf _ hi => RG.f hk (R hp) hf hi (Or.inr (Or.inl rfl))) h5 (fun f hf => by
    have hb := tb_ok hf
    have : f = 1 ∨ f = 2 ∨ f = 3 := by omega
    rcases this with rfl | rfl | rfl
    · first | exact absurd hf (by decide) | (rw [h1]; omega)
    · first | exact absurd hf (by decide) | (rw [h2]; omega)
    · first | exact absurd hf (by decide) | skip) hs
  refine ⟨gnw g (rF s k 7) 8 b d, ?_, ?_, ?_, ?_⟩
  · unfold GS0; rw [hN]; exact A.1
  · rw [hN]; exact A.2.1
  · unfold OP; rw [hN]; exact A.2.2
  · rw [gnw_N]; simp
theorem EVo_8 {P : Prop} {s t : rS} {k S : Nat} {g : Nat → Int → Int} {r v x3 n0 l h d' : Int} (b d : Int) (hk : rgk k) (G : Im P (GS0 s k g)) (V : Im P (NR s k g S v n0 l h d')) (hso : ∀ q, so S q → so 14 q) (R : Im P (RG s t k 0)) (hr : r = rF s k 7) (hN : rF t k 7 = rF s k 7 + 1) (h0 : tr t k 0 r = 8) (h1 : tr t k 1 r = v) (h2 : tr t k 2 r = x3) (h5 : tr t k 5 r = 0) (sd : Im P (0 < rF s k 7 ∧ (0 ≤ b ∧ b ≤ 9000) ∧ (-1 ≤ d ∧ d ≤ 21) ∧ rF s k 12 ≤ rF t k 12 ∧ (x3 = 0) ∧ (b ≤ l ∧ 0 ≤ l) ∧ d + (-100) ≤ d'))   : ∃ g', Im P (GS0 t k g' ∧ (∀ j, j ≠ 3 → j ≠ 5 → j ≠ 8 → g' j v = g j v) ∧ KV g g' (rF s k 7) (rF t k 7) v ∧ OP t k g' r 8 d b h h 0 ∧ LI t k g' r 1 8 v ∧ (g 2 v ≤ 9000 ∧ g 3 v = 0) ∧ g' 6 r = 0) := by
  refine imx g (fun hp => ?_)
  obtain ⟨q1, q2, q3, q4, q5, q6, q7⟩ := sd hp
  subst hr
  have hs : gS (udt (tr t k) 1 (rF s k 7) 0) (rF t k 12) (gnw g (rF s k 7) 8 b d) (rF s k 7) := by
    have e : ∀ f, f ≠ 1 → udt (tr t k) 1 (rF s k 7) 0 f (rF s k 7) = tr t k f (rF s k 7) := fun f hf => udt_ne (Or.inl hf)
    unfold gS; simp only [gnw_N, e 0 (by decide), e 2 (by decide), e 3 (by decide), e 4 (by decide), h0, h2]
    refine ⟨by simp, by simp; omega, by simp; omega, by simp; omega, by simp, by simp; omega, by simp; omega, by simp, by simp, by simp, by simp, by simp; try omega, by simp, by simp, by simp, by simp, by simp⟩
  have V' := V hp
  obtain ⟨g', a1, a2, a3, a4, a5, a6⟩ := GI.newV (K := 8) (b := b) (d := d) (nm := rF t k 12) (GI.mv (t' := tr s k) (G hp) (fun _ _ _ _ _ => rfl) rfl q4) (V hp) q1 (fun f i hf _ hi => RG.f hk (R hp) hf hi (Or.inr (Or.inl rfl))) h5 h1 (fun f hf1 hf => by
    have hb := tb_ok hf
    have : f = 2 ∨ f = 3 := by omega
    rcases this with rfl | rfl
    · first | exact absurd hf (by decide) | (rw [h2]; omega)
    · first | exact absurd hf (by decide) | skip) hs (by decide) hso q6.1 q6.2 q7 (by decide)
  have v1 := V'.2.2.2.1
  have v2 := V'.2.2.2.2.2.2.1
  have v3 := V'.2.2.2.2.2.2.2.1
  refine ⟨g', ?_, a6, ?_, ?_, ?_, ⟨by omega, v1⟩, ?_⟩
  · unfold GS0; rw [hN]; exact a1
  · rw [hN]; exact a2
  · unfold OP; rw [hN]; exact a3
  · unfold LI; rw [hN]; exact a4
  · exact a5 rfl
theorem ECo_8 {P : Prop} {s : rS} {k : Nat} {g : Nat → Int → Int} {it d lo x y e : Int} (b : Int) (G : Im P (GS0 s k g)) (O : Im P (OP s k g it 8 d lo x y e)) (sd : Im P (x ≤ b ∧ y ≤ b ∧ b ≤ 9000)) : ∃ g', Im P (GS0 s k g' ∧ NR s k g' 13 it it lo b d ∧ KC g g' it) := by
  refine imx g (fun hp => ?_)
  have q := sd hp
  have o' := O hp
  obtain ⟨g', a1, a2, a3, a4⟩ := GI.close (b := b) (S := 13) (G hp) o' ⟨q.1, q.2.1, by omega⟩ (by show (((8 : Nat) : Int) = 8); omega) (fun h => absurd h (by decide)) (fun h => absurd h (by decide))
  exact ⟨g', a1, a2, o'.2.2.2.1, fun j m hj => by
    by_cases e : m = it
    · subst e; exact a4 j (by omega)
    · exact a3 j m e⟩
theorem ENo_4 {P : Prop} {s t : rS} {k : Nat} {g : Nat → Int → Int} {r x2 x3 : Int} (b d : Int) (hk : rgk k) (G : Im P (GS0 s k g)) (R : Im P (RG s t k 0)) (hr : r = rF s k 7) (hN : rF t k 7 = rF s k 7 + 1) (h0 : tr t k 0 r = 4) (h1 : tr t k 1 r = x2) (h2 : tr t k 2 r = x3) (h4 : tr t k 4 r = 0) (h5 : tr t k 5 r = 0) (sd : Im P (0 < rF s k 7 ∧ (0 ≤ b ∧ b ≤ 9000) ∧ (-1 ≤ d ∧ d ≤ 21) ∧ rF s k 12 ≤ rF t k 12 ∧ (x2 = 0 ∧ x3 = 0) ∧ (True))) : ∃ g', Im P (GS0 t k g' ∧ GK g g' (rF s k 7) (rF t k 7) 0 ∧ OP t k g' r 4 d b (-1) b 0 ∧ g' 6 r = 0) := by
  refine imx g (fun hp => ?_)
  obtain ⟨q1, q2, q3, q4, q5, q6⟩ := sd hp
  subst hr
  have hs : gS (tr t k) (rF t k 12) (gnw g (rF s k 7) 4 b d) (rF s k 7) := by
    unfold gS; simp only [gnw_N, h0, h1, h2, h4]
    refine ⟨by simp, by simp; omega, by simp; omega, by simp; omega, by simp, by simp; omega, by simp; omega, by simp, by simp, by simp, by simp, by simp; try omega, ?_, ?_, by simp, by simp, fun _ => rind_0⟩ <;> first | (intro _; omega) | simp
  have A := GI.new (nm := rF t k 12) (K := 4) (b := b) (d := d) (GI.mv (t' := tr s k) (G hp) (fun _ _ _ _ _ => rfl) rfl q4) q1 (fun f i hf _ hi => RG.f hk (R hp) hf hi (Or.inr (Or.inl rfl))) h5 (fun f hf => by
    have hb := tb_ok hf
    have : f = 1 ∨ f = 2 ∨ f = 3 := by omega
    rcases this with rfl | rfl | rfl
    · first | exact absurd hf (by decide) | (rw [h1]; omega)
    · first | exact absurd hf (by decide) | (rw [h2]; omega)
    · first | exact absurd hf (by decide) | skip) hs
  refine ⟨gnw g (rF s k 7) 4 b d, ?_, ?_, ?_, ?_⟩
  · unfold GS0; rw [hN]; exact A.1
  · rw [hN]; exact A.2.1
  · unfold OP; rw [hN]; exact A.2.2
  · rw [gnw_N]; simp
theorem ECo_4 {P : Prop} {s : rS} {k : Nat} {g : Nat → Int → Int} {it d lo x y e : Int} (b : Int) (G : Im P (GS0 s k g)) (O : Im P (OP s k g it 4 d lo x y e)) (sd : Im P (x ≤ b ∧ y ≤ b ∧ b ≤ 9000)) : ∃ g', Im P (GS0 s k g' ∧ NR s k g' 12 it it lo b d ∧ KC g g' it) := by
  refine imx g (fun hp => ?_)
  have q := sd hp
  have o' := O hp
  obtain ⟨g', a1, a2, a3, a4⟩ := GI.close (b := b) (S := 12) (G hp) o' ⟨q.1, q.2.1, by omega⟩ (by show (1 ≤ ((4 : Nat) : Int) ∧ ((4 : Nat) : Int) ≤ 7); omega) (fun h => absurd h (by decide)) (fun h => absurd h (by decide))
  exact ⟨g', a1, a2, o'.2.2.2.1, fun j m hj => by
    by_cases e : m = it
    · subst e; exact a4 j (by omega)
    · exact a3 j m e⟩
theorem ENo_5 {P : Prop} {s t : rS} {k : Nat} {g : Nat → Int → Int} {r x2 x3 : Int} (b d : Int) (hk : rgk k) (G : Im P (GS0 s k g)) (R : Im P (RG s t k 0)) (hr : r = rF s k 7) (hN : rF t k 7 = rF s k 7 + 1) (h0 : tr t k 0 r = 5) (h1 : tr t k 1 r = x2) (h2 : tr t k 2 r = x3) (h5 : tr t k 5 r = 0) (sd : Im P (0 < rF s k 7 ∧ (0 ≤ b ∧ b ≤ 9000) ∧ (-1 ≤ d ∧ d ≤ 21) ∧ rF s k 12 ≤ rF t k 12 ∧ (x2 = 0) ∧ (True))) : ∃ g', Im P (GS0 t k g' ∧ GK g g' (rF s k 7) (rF t k 7) 0 ∧ OP t k g' r 5 d b (-1) b 0 ∧ g' 6 r = 0) := by
  refine imx g (fun hp => ?_)
  obtain ⟨q1, q2, q3, q4, q5, q6⟩ := sd hp
  subst hr
  have hs : gS (tr t k) (rF t k 12) (gnw g (rF s k 7) 5 b d) (rF s k 7) := by
    unfold gS; simp only [gnw_N, h0, h1, h2]
    refine ⟨by simp, by simp; omega, by simp; omega, by simp; omega, by simp, by simp; omega, by simp; omega, by simp, by simp, by simp, by simp, by simp; try omega, ?_, ?_, by simp, by simp, by simp⟩ <;> first | (intro _; omega) | simp
  have A := GI.new (nm := rF t k 12) (K := 5) (b := b) (d := d) (GI.mv (t' := tr s k) (G hp) (fun _ _ _ _ _ => rfl) rfl q4) q1 (fun f i hf _ hi => RG.f hk (R hp) hf hi (Or.inr (Or.inl rfl))) h5 (fun f hf => by
    have hb := tb_ok hf
    have : f = 1 ∨ f = 2 ∨ f = 3 := by omega
    rcases this with rfl | rfl | rfl
    · first | exact absurd hf (by decide) | (rw [h1]; omega)
    · first | exact absurd hf (by decide) | (rw [h2]; omega)
    · first | exact absurd hf (by decide) | skip) hs
  refine ⟨gnw g (rF s k 7) 5 b d, ?_, ?_, ?_, ?_⟩
  · unfold GS0; rw [hN]; exact A.1
  · rw [hN]; exact A.2.1
  · unfold OP; rw [hN]; exact A.2.2
  · rw [gnw_N]; simp
theorem ECo_5 {P : Prop} {s : rS} {k : Nat} {g : Nat → Int → Int} {it d lo x y e : Int} (b : Int) (G : Im P (GS0 s k g)) (O : Im P (OP s k g it 5 d lo x y e)) (sd : Im P (x ≤ b ∧ y ≤ b ∧ b ≤ 9000)) : ∃ g', Im P (GS0 s k g' ∧ NR s k g' 12 it it lo b d ∧ KC g g' it) := by
  refine imx g (fun hp => ?_)
  have q := sd hp
  have o' := O hp
  obtain ⟨g', a1, a2, a3, a4⟩ := GI.close (b := b) (S := 12) (G hp) o' ⟨q.1, q.2.1, by omega⟩ (by show (1 ≤ ((5 : Nat) : Int) ∧ ((5 : Nat) : Int) ≤ 7); omega) (fun h => absurd h (by decide)) (fun h => absurd h (by decide))
  exact ⟨g', a1, a2, o'.2.2.2.1, fun j m hj => by
    by_cases e : m = it
    · subst e; exact a4 j (by omega)
    · exact a3 j m e⟩
theorem ENo_6 {P : Prop} {s t : rS} {k : Nat} {g : Nat → Int → Int} {r x2 x3 : Int} (b d : Int) (hk : rgk k) (G : Im P (GS0 s k g)) (R : Im P (RG s t k 0)) (hr : r = rF s k 7) (hN : rF t k 7 = rF s k 7 + 1) (h0 : tr t k 0 r = 6) (h1 : tr t k 1 r = x2) (h2 : tr t k 2 r = x3) (h3 : tr t k 3 r = 0) (h4 : tr t k 4 r = 0) (h5 : tr t k 5 r = 0) (sd : Im P (0 < rF s k 7 ∧ (0 ≤ b ∧ b ≤ 9000) ∧ (-1 ≤ d ∧ d ≤ 21) ∧ rF s k 12 ≤ rF t k 12 ∧ (x3 = 0) ∧ (True))) : ∃ g', Im P (GS0 t k g' ∧ GK g g' (rF s k 7) (rF t k 7) 0 ∧ OP t k g' r 6 d b (-1) b 0 ∧ g' 6 r = 0) := by
  refine imx g (fun hp => ?_)
  obtain ⟨q1, q2, q3, q4, q5, q6⟩ := sd hp
  subst hr
  have hs : gS (tr t k) (rF t k 12) (gnw g (rF s k 7) 6 b d) (rF s k 7) := by
    unfold gS; simp only [gnw_N, h0, h1, h2, h3, h4]
    refine ⟨by simp, by simp; omega, by simp; omega, by simp; omega, by simp, by simp; omega, by simp; omega, by simp, by simp, by simp, by simp, by simp; try omega, ?_, ?_, by simp, by simp, fun _ => rind_0⟩ <;> first | (intro _; omega) | simp
  have A := GI.new (nm := rF t k 12) (K := 6) (b := b) (d := d) (GI.mv (t' := tr s k) (G hp) (fun _ _ _ _ _ => rfl) rfl q4) q1 (fun f i hf _ hi => RG.f hk (R hp) hf hi (Or.inr (Or.inl rfl))) h5 (fun f hf => by
    have hb := tb_ok hf
    have : f = 1 ∨ f = 2 ∨ f = 3 := by omega
    rcases this with rfl | rfl | rfl
    · first | exact absurd hf (by decide) | (rw [h1]; omega)
    · first | exact absurd hf (by decide) | (rw [h2]; omega)
    · first | exact absurd hf (by decide) | (rw [h3]; omega)) hs
  refine ⟨gnw g (rF s k 7) 6 b d, ?_, ?_, ?_, ?_⟩
  · unfold GS0; rw [hN]; exact A.1
  · rw [hN]; exact A.2.1
  · unfold OP; rw [hN]; exact A.2.2
  · rw [gnw_N]; simp
theorem ECo_6 {P : Prop} {s : rS} {k : Nat} {g : Nat → Int → Int} {it d lo x y e : Int} (b : Int) (G : Im P (GS0 s k g)) (O : Im P (OP s k g it 6 d lo x y e)) (sd : Im P (x ≤ b ∧ y ≤ b ∧ b ≤ 9000)) : ∃ g', Im P (GS0 s k g' ∧ NR s k g' 12 it it lo b d ∧ KC g g' it) := by
  refine imx g (fun hp => ?_)
  have q := sd hp
  have o' := O hp
  obtain ⟨g', a1, a2, a3, a4⟩ := GI.close (b := b) (S := 12) (G hp) o' ⟨q.1, q.2.1, by omega⟩ (by show (1 ≤ ((6 : Nat) : Int) ∧ ((6 : Nat) : Int) ≤ 7); omega) (fun h => absurd h (by decide)) (fun h => absurd h (by decide))
  exact ⟨g', a1, a2, o'.2.2.2.1, fun j m hj => by
    by_cases e : m = it
    · subst e; exact a4 j (by omega)
    · exact a3 j m e⟩
theorem ENo_7 {P : Prop} {s t : rS} {k : Nat} {g : Nat → Int → Int} {r x2 x3 : Int} (b d : Int) (hk : rgk k) (G : Im P (GS0 s k g)) (R : Im P (RG s t k 0)) (hr : r = rF s k 7) (hN : rF t k 7 = rF s k 7 + 1) (h0 : tr t k 0 r = 7) (h1 : tr t k 1 r = x2) (h2 : tr t k 2 r = x3) (h3 : tr t k 3 r = 0) (h4 : tr t k 4 r = 0) (h5 : tr t k 5 r = 0) (sd : Im P (0 < rF s k 7 ∧ (0 ≤ b ∧ b ≤ 9000) ∧ (-1 ≤ d ∧ d ≤ 21) ∧ rF s k 12 ≤ rF t k 12 ∧ (True) ∧ (True))) : ∃ g', Im P (GS0 t k g' ∧ GK g g' (rF s k 7) (rF t k 7) 0 ∧ OP t k g' r 7 d b (-1) b 0 ∧ g' 6 r = 0) := by
  refine imx g (fun hp => ?_)
  obtain ⟨q1, q2, q3, q4, q5, q6⟩ := sd hp
  subst hr
  have hs : gS (tr t k) (rF t k 12) (gnw g (rF s k 7) 7 b d) (rF s k 7) := by
    unfold gS; simp only [gnw_N, h0, h1, h2, h3, h4]
    refine ⟨by simp, by simp; omega, by simp; omega, by simp; omega, by simp, by simp; omega, by simp; omega, by simp, by simp, by simp, by simp, by simp; try omega, ?_, ?_, by simp, by simp, fun _ => rind_0⟩ <;> first | (intro _; omega) | simp
  have A := GI.new (nm := rF t k 12) (K := 7) (b := b) (d := d) (GI.mv (t' := tr s k) (G hp) (fun _ _ _ _ _ => rfl) rfl q4) q1 (fun f i hf _ hi => RG.f hk (R hp) hf hi (Or.inr (Or.inl rfl))) h5 (fun f hf => by
    have hb := tb_ok hf
    have : f = 1 ∨ f = 2 ∨ f = 3 := by omega
    rcases this with rfl | rfl | rfl
    · first | exact absurd hf (by decide) | (rw [h1]; omega)
    · first | exact absurd hf (by decide) | (rw [h2]; omega)
    · first | exact absurd hf (by decide) | (rw [h3]; omega)) hs
  refine ⟨gnw g (rF s k 7) 7 b d, ?_, ?_, ?_, ?_⟩
  · unfold GS0; rw [hN]; exact A.1
  · rw [hN]; exact A.2.1
  · unfold OP; rw [hN]; exact A.2.2
  · rw [gnw_N]; simp
theorem ECo_7 {P : Prop} {s : rS} {k : Nat} {g : Nat → Int → Int} {it d lo x y e : Int} (b : Int) (G : Im P (GS0 s k g)) (O : Im P (OP s k g it 7 d lo x y e)) (sd : Im P (x ≤ b ∧ y ≤ b ∧ b ≤ 9000)) : ∃ g', Im P (GS0 s k g' ∧ NR s k g' 12 it it lo b d ∧ KC g g' it) := by
  refine imx g (fun hp => ?_)
  have q := sd hp
  have o' := O hp
  obtain ⟨g', a1, a2, a3, a4⟩ := GI.close (b := b) (S := 12) (G hp) o' ⟨q.1, q.2.1, by omega⟩ (by show (1 ≤ ((7 : Nat) : Int) ∧ ((7 : Nat) : Int) ≤ 7); omega) (fun h => absurd h (by decide)) (fun h => absurd h (by decide))
  exact ⟨g', a1, a2, o'.2.2.2.1, fun j m hj => by
    by_cases e : m = it
    · subst e; exact a4 j (by omega)
    · exact a3 j m e⟩
theorem ENo_1 {P : Prop} {s t : rS} {k : Nat} {g : Nat → Int → Int} {r x2 x3 : Int} (b d : Int) (hk : rgk k) (G : Im P (GS0 s k g)) (R : Im P (RG s t k 0)) (hr : r = rF s k 7) (hN : rF t k 7 = rF s k 7 + 1) (h0 : tr t k 0 r = 1) (h1 : tr t k 1 r = x2) (h2 : tr t k 2 r = x3) (h5 : tr t k 5 r = 0) (sd : Im P (0 < rF s k 7 ∧ (0 ≤ b ∧ b ≤ 9000) ∧ (-1 ≤ d ∧ d ≤ 21) ∧ rF s k 12 ≤ rF t k 12 ∧ (True) ∧ (True))) : ∃ g', Im P (GS0 t k g' ∧ GK g g' (rF s k 7) (rF t k 7) 0 ∧ OP t k g' r 1 d b (-1) b 0 ∧ g' 6 r = 0) := by
  refine imx g (fun hp => ?_)
  obtain ⟨q1, q2, q3, q4, q5, q6⟩ := sd hp
  subst hr
  have hs : gS (tr t k) (rF t k 12) (gnw g (rF s k 7) 1 b d) (rF s k 7) := by
    unfold gS; simp only [gnw_N, h0, h1, h2]
    refine ⟨by simp, by simp; omega, by simp; omega, by simp; omega, by simp, by simp; omega, by simp; omega, by simp, by simp, by simp, by simp, by simp; try omega, ?_, ?_, by simp, by simp, by simp⟩ <;> first | (intro _; omega) | simp
  have A := GI.new (nm := rF t k 12) (K := 1) (b := b) (d := d) (GI.mv (t' := tr s k) (G hp) (fun _ _ _ _ _ => rfl) rfl q4) q1 (fun f i hf _ hi => RG.f hk (R hp) hf hi (Or.inr (Or.inl rfl))) h5 (fun f hf => by
    have hb := tb_ok hf
    have : f = 1 ∨ f = 2 ∨ f = 3 := by omega
    rcases this with rfl | rfl | rfl
    · first | exact absurd hf (by decide) | (rw [h1]; omega)
    · first | exact absurd hf (by decide) | (rw [h2]; omega)
    · first | exact absurd hf (by decide) | skip) hs
  refine ⟨gnw g (rF s k 7) 1 b d, ?_, ?_, ?_, ?_⟩
  · unfold GS0; rw [hN]; exact A.1
  · rw [hN]; exact A.2.1
  · unfold OP; rw [hN]; exact A.2.2
  · rw [gnw_N]; simp
theorem ECo_1 {P : Prop} {s : rS} {k : Nat} {g : Nat → Int → Int} {it d lo x y e : Int} (b : Int) (G : Im P (GS0 s k g)) (O : Im P (OP s k g it 1 d lo x y e)) (sd : Im P (x ≤ b ∧ y ≤ b ∧ b ≤ 9000)) : ∃ g', Im P (GS0 s k g' ∧ NR s k g' 12 it it lo b d ∧ KC g g' it) := by
  refine imx g (fun hp => ?_)
  have q := sd hp
  have o' := O hp
  obtain ⟨g', a1, a2, a3, a4⟩ := GI.close (b := b) (S := 12) (G hp) o' ⟨q.1, q.2.1, by omega⟩ (by show (1 ≤ ((1 : Nat) : Int) ∧ ((1 : Nat) : Int) ≤ 7); omega) (fun h => absurd h (by decide)) (fun h => absurd h (by decide))
  exact ⟨g', a1, a2, o'.2.2.2.1, fun j m hj => by
    by_cases e : m = it
    · subst e; exact a4 j (by omega)
    · exact a3 j m e⟩
theorem ENo_2 {P : Prop} {s t : rS} {k : Nat} {g : Nat → Int → Int} {r x2 x3 : Int} (b d : Int) (hk : rgk k) (G : Im P (GS0 s k g)) (R : Im P (RG s t k 0)) (hr : r = rF s k 7) (hN : rF t k 7 = rF s k 7 + 1) (h0 : tr t k 0 r = 2) (h1 : tr t k 1 r = x2) (h2 : tr t k 2 r = x3) (h5 : tr t k 5 r = 0) (sd : Im P (0 < rF s k 7 ∧ (0 ≤ b ∧ b ≤ 9000) ∧ (-1 ≤ d ∧ d ≤ 21) ∧ rF s k 12 ≤ rF t k 12 ∧ (True) ∧ (True))) : ∃ g', Im P (GS0 t k g' ∧ GK g g' (rF s k 7) (rF t k 7) 0 ∧ OP t k g' r 2 d b (-1) b 0 ∧ g' 6 r = 0) := by
  refine imx g (fun hp => ?_)
  obtain ⟨q1, q2, q3, q4, q5, q6⟩ := sd hp
  subst hr
  have hs : gS (tr t k) (rF t k 12) (gnw g (rF s k 7) 2 b d) (rF s k 7) := by
    unfold gS; simp only [gnw_N, h0, h1, h2]
    refine ⟨by simp, by simp; omega, by simp; omega, by simp; omega, by simp, by simp; omega, by simp; omega, by simp, by simp, by simp, by simp, by simp; try omega, ?_, ?_, by simp, by simp, by simp⟩ <;> first | (intro _; omega) | simp
  have A := GI.new (nm := rF t k 12) (K := 2) (b := b) (d := d) (GI.mv (t' := tr s k) (G hp) (fun _ _ _ _ _ => rfl) rfl q4) q1 (fun f i hf _ hi => RG.f hk (R hp) hf hi (Or.inr (Or.inl rfl))) h5 (fun f hf => by
    have hb := tb_ok hf
    have : f = 1 ∨ f = 2 ∨ f = 3 := by omega
    rcases this with rfl | rfl | rfl
    · first | exact absurd hf (by decide) | (rw [h1]; omega)
    · first | exact absurd hf (by decide) | (rw [h2]; omega)
    · first | exact absurd hf (by decide) | skip) hs
  refine ⟨gnw g (rF s k 7) 2 b d, ?_, ?_, ?_, ?_⟩
  · unfold GS0; rw [hN]; exact A.1
  · rw [hN]; exact A.2.1
  · unfold OP; rw [hN]; exact A.2.2
  · rw [gnw_N]; simp
theorem ECo_2 {P : Prop} {s : rS} {k : Nat} {g : Nat → Int → Int} {it d lo x y e : Int} (b : Int) (G : Im P (GS0 s k g)) (O : Im P (OP s k g it 2 d lo x y e)) (sd : Im P (x ≤ b ∧ y ≤ b ∧ b ≤ 9000)) : ∃ g', Im P (GS0 s k g' ∧ NR s k g' 12 it it lo b d ∧ KC g g' it) := by
  refine imx g (fun hp => ?_)
  have q := sd hp
  have o' := O hp
  obtain ⟨g', a1, a2, a3, a4⟩ := GI.close (b := b) (S := 12) (G hp) o' ⟨q.1, q.2.1, by omega⟩ (by show (1 ≤ ((2 : Nat) : Int) ∧ ((2 : Nat) : Int) ≤ 7); omega) (fun h => absurd h (by decide)) (fun h => absurd h (by decide))
  exact ⟨g', a1, a2, o'.2.2.2.1, fun j m hj => by
    by_cases e : m = it
    · subst e; exact a4 j (by omega)
    · exact a3 j m e⟩
theorem ENo_3 {P : Prop} {s t : rS} {k : Nat} {g : Nat → Int → Int} {r x2 x3 : Int} (b d : Int) (hk : rgk k) (G : Im P (GS0 s k g)) (R : Im P (RG s t k 0)) (hr : r = rF s k 7) (hN : rF t k 7 = rF s k 7 + 1) (h0 : tr t k 0 r = 3) (h1 : tr t k 1 r = x2) (h2 : tr t k 2 r = x3) (h5 : tr t k 5 r = 0) (sd : Im P (0 < rF s k 7 ∧ (0 ≤ b ∧ b ≤ 9000) ∧ (-1 ≤ d ∧ d ≤ 21) ∧ rF s k 12 ≤ rF t k 12 ∧ (True) ∧ (True))) : ∃ g', Im P (GS0 t k g' ∧ GK g g' (rF s k 7) (rF t k 7) 0 ∧ OP t k g' r 3 d b (-1) b 0 ∧ g' 6 r = 0) := by
  refine imx g (fun hp => ?_)
  obtain ⟨q1, q2, q3, q4, q5, q6⟩ := sd hp
  subst hr
  have hs : gS (tr t k) (rF t k 12) (gnw g (rF s k 7) 3 b d) (rF s k 7) := by
    unfold gS; simp only [gnw_N, h0, h1, h2]
    refine ⟨by simp, by simp; omega, by simp; omega, by simp; omega, by simp, by simp; omega, by simp; omega, by simp, by simp, by simp, by simp, by simp; try omega, ?_, ?_, by simp, by simp, by simp⟩ <;> first | (intro _; omega) | simp
  have A := GI.new (nm := rF t k 12) (K := 3) (b := b) (d := d) (GI.mv (t' := tr s k) (G hp) (fun _ _ _ _ _ => rfl) rfl q4) q1 (fun f i hf _ hi => RG.f hk (R hp) hf hi (Or.inr (Or.inl rfl))) h5 (fun f hf => by
    have hb := tb_ok hf
    have : f = 1 ∨ f = 2 ∨ f = 3 := by omega
    rcases this with rfl | rfl | rfl
    · first | exact absurd hf (by decide) | (rw [h1]; omega)
    · first | exact absurd hf (by decide) | (rw [h2]; omega)
    · first | exact absurd hf (by decide) | skip) hs
  refine ⟨gnw g (rF s k 7) 3 b d, ?_, ?_, ?_, ?_⟩
  · unfold GS0; rw [hN]; exact A.1
  · rw [hN]; exact A.2.1
  · unfold OP; rw [hN]; exact A.2.2
  · rw [gnw_N]; simp
theorem ECo_3 {P : Prop} {s : rS} {k : Nat} {g : Nat → Int → Int} {it d lo x y e : Int} (b : Int) (G : Im P (GS0 s k g)) (O : Im P (OP s k g it 3 d lo x y e)) (sd : Im P (x ≤ b ∧ y ≤ b ∧ b ≤ 9000)) : ∃ g', Im P (GS0 s k g' ∧ NR s k g' 12 it it lo b d ∧ KC g g' it) := by
  refine imx g (fun hp => ?_)
  have q := sd hp
  have o' := O hp
  obtain ⟨g', a1, a2, a3, a4⟩ := GI.close (b := b) (S := 12) (G hp) o' ⟨q.1, q.2.1, by omega⟩ (by show (1 ≤ ((3 : Nat) : Int) ∧ ((3 : Nat) : Int) ≤ 7); omega) (fun h => absurd h (by decide)) (fun h => absurd h (by decide))
  exact ⟨g', a1, a2, o'.2.2.2.1, fun j m hj => by
    by_cases e : m = it
    · subst e; exact a4 j (by omega)
    · exact a3 j m e⟩
theorem EGo_41 {P : Prop} {s : rS} {k : Nat} {g : Nat → Int → Int} {it n0 lo hi d : Int} (G : Im P (GS0 s k g)) (V : Im P (NR s k g 1 it n0 lo hi d)) (sd : Im P (lo ≤ hi)) : ∃ g', Im P (GS0 s k g' ∧ OP s k g' it 41 d lo hi hi 1 ∧ KC g g' it) := by
  refine imx g (fun hp => ?_)
  have v := V hp
  obtain ⟨g', a1, a2, a3, a4⟩ := GI.again (K := 41) (G hp) v (by have := v.2.2.2.2.1; rw [so_1] at this; exact this)
  exact ⟨g', a1, a2, v.2.2.2.1, fun j m hj => by
    by_cases e : m = it
    · subst e; exact a4 j (by omega)
    · exact a3 j m e⟩
theorem EHo_1_41 {P : Prop} {s : rS} {k S : Nat} {g : Nat → Int → Int} {it d lo x y e v n0 l h d' : Int} (hk : rgk k) (G : Im P (GS0 s k g)) (O : Im P (OP s k g it 41 d lo x y e)) (V : Im P (NR s k g S v n0 l h d')) (hso : ∀ q, so S q → so 17 q) (sd : Im P (x ≤ l ∧ y ≤ l ∧ d + 0 ≤ d' ∧ x < 0)) : ∃ g', Im P (GS0 (sT s k 1 it v) k g' ∧ OP (sT s k 1 it v) k g' it 41 d lo h h e ∧ LI (sT s k 1 it v) k g' it 1 41 v ∧ KS g g' it v 1 41 ∧ (g 2 it = 100000 ∧ g 3 it = 0) ∧ (g 3 v = 0 ∧ g 2 v ≤ 9000)) := by
  refine imx g (fun hp => ?_)
  have q := sd hp
  have o' := O hp
  have v' := V hp
  have L0 : LI s k g it 1 41 0 := LI.z (fun h => absurd h (by decide))
  obtain ⟨g', a1, a2, a3, a4⟩ := GI.head (ix := 0) (f := 1) (G hp) o' v' (by decide) hso q.1 q.2.1 (by have : ds 1 41 = 0 := rfl; omega) L0 (by first | (intro h; exact absurd h (by decide)) | (intro _ h; exact absurd h (by decide)) | (intro _ _; omega)) (by first | (intro h; exact absurd h (by decide)) | (intro _ h; exact absurd h (by decide)) | (intro _ _; omega)) (by omega) (fun _ _ => rfl)
  refine ⟨g', ?_, a2, ?_, a4, ⟨o'.2.2.2.2.1, o'.2.2.2.1⟩, ⟨v'.2.2.2.1, by have := v'.2.2.2.2.2.2.1; have := v'.2.2.2.2.2.2.2.1; omega⟩⟩
  · unfold GS0; rw [tr_u hk (by decide)]; exact a1
  · unfold LI; rw [tr_u hk (by decide)]; exact a3
theorem EHo_2_41 {P : Prop} {s : rS} {k S : Nat} {g : Nat → Int → Int} {it d lo x y e v n0 l h d' : Int} (hk : rgk k) (G : Im P (GS0 s k g)) (O : Im P (OP s k g it 41 d lo x y e)) (V : Im P (NR s k g S v n0 l h d')) (hso : ∀ q, so S q → so 3 q) (sd : Im P (x ≤ l ∧ y ≤ l ∧ d + 0 ≤ d' ∧ e = 0)) : ∃ g', Im P (GS0 (sT s k 2 it v) k g' ∧ OP (sT s k 2 it v) k g' it 41 d lo h h e ∧ LI (sT s k 2 it v) k g' it 2 41 v ∧ KS g g' it v 2 41 ∧ (g 2 it = 100000 ∧ g 3 it = 0) ∧ (g 3 v = 0 ∧ g 2 v ≤ 9000)) := by
  refine imx g (fun hp => ?_)
  have q := sd hp
  have o' := O hp
  have v' := V hp
  have L0 : LI s k g it 2 41 0 := LI.z (fun h => absurd h (by decide))
  obtain ⟨g', a1, a2, a3, a4⟩ := GI.head (ix := 0) (f := 2) (G hp) o' v' (by decide) hso q.1 q.2.1 (by have : ds 2 41 = 0 := rfl; omega) L0 (by first | (intro h; exact absurd h (by decide)) | (intro _ h; exact absurd h (by decide)) | (intro _ _; omega)) (by first | (intro h; exact absurd h (by decide)) | (intro _ h; exact absurd h (by decide)) | (intro _ _; omega)) (by omega) (fun _ _ => rfl)
  refine ⟨g', ?_, a2, ?_, a4, ⟨o'.2.2.2.2.1, o'.2.2.2.1⟩, ⟨v'.2.2.2.1, by have := v'.2.2.2.2.2.2.1; have := v'.2.2.2.2.2.2.2.1; omega⟩⟩
  · unfold GS0; rw [tr_u hk (by decide)]; exact a1
  · unfold LI; rw [tr_u hk (by decide)]; exact a3
theorem EAo_2_41 {P : Prop} {s : rS} {k S : Nat} {g : Nat → Int → Int} {it d lo x y e v n0 l h d' la : Int} (hk : rgk k) (G : Im P (GS0 s k g)) (O : Im P (OP s k g it 41 d lo x y e)) (L : Im P (LI s k g it 2 41 la)) (V : Im P (NR s k g S v n0 l h d')) (hso : ∀ q, so S q → so 3 q) (sd : Im P (x < l ∧ y ≤ l ∧ d + 0 ≤ d' ∧ la ≠ 0 ∧ e = 0 ∧ la < v)) : ∃ g', Im P (GS0 (sT s k 5 la v) k g' ∧ OP (sT s k 5 la v) k g' it 41 d lo h h e ∧ LI (sT s k 5 la v) k g' it 2 41 v ∧ KS g g' it v 2 41 ∧ (g 2 it = 100000 ∧ g 3 it = 0) ∧ (g 3 v = 0 ∧ g 2 v ≤ 9000) ∧ g 3 la = it ∧ g 8 la = 2) := by
  refine imx g (fun hp => ?_)
  have q := sd hp
  have o' := O hp
  have v' := V hp
  have L' := L hp
  have hla : la ≠ 0 := q.2.2.2.1
  obtain ⟨g', a1, a2, a3, a4⟩ := GI.app1 (f := 2) (G hp) o' v' L' hla (by decide) (by decide) hso q.1 (by omega) q.2.1 (by have : ds 2 41 = 0 := rfl; omega) (by first | (intro h; exact absurd h (by decide)) | (intro _ h; exact absurd h (by decide)) | (intro _ _; omega))
  have la3 : g 3 la = it := by rcases L' with z | z; exact absurd z.1 hla; exact z.2.2.1
  have la8 : g 8 la = 2 := by rcases L' with z | z; exact absurd z.1 hla; exact z.2.2.2.1
  refine ⟨g', ?_, a2, ?_, a4, ⟨o'.2.2.2.2.1, o'.2.2.2.1⟩, ⟨v'.2.2.2.1, by have := v'.2.2.2.2.2.2.1; have := v'.2.2.2.2.2.2.2.1; omega⟩, la3, la8⟩
  · unfold GS0; rw [tr_u hk (by decide)]; exact a1
  · unfold LI; rw [tr_u hk (by decide)]; exact a3
theorem EHo_3_41 {P : Prop} {s : rS} {k S : Nat} {g : Nat → Int → Int} {it d lo x y e v n0 l h d' : Int} (hk : rgk k) (G : Im P (GS0 s k g)) (O : Im P (OP s k g it 41 d lo x y e)) (V : Im P (NR s k g S v n0 l h d')) (hso : ∀ q, so S q → so 4 q) (sd : Im P (x ≤ l ∧ y ≤ l ∧ d + 0 ≤ d')) : ∃ g', Im P (GS0 (sT s k 3 it v) k g' ∧ OP (sT s k 3 it v) k g' it 41 d lo h h 1 ∧ LI (sT s k 3 it v) k g' it 3 41 v ∧ KS g g' it v 3 41 ∧ (g 2 it = 100000 ∧ g 3 it = 0) ∧ (g 3 v = 0 ∧ g 2 v ≤ 9000)) := by
  refine imx g (fun hp => ?_)
  have q := sd hp
  have o' := O hp
  have v' := V hp
  have L0 : LI s k g it 3 41 0 := LI.z (fun h => absurd h (by decide))
  obtain ⟨g', a1, a2, a3, a4⟩ := GI.head (ix := 0) (f := 3) (G hp) o' v' (by decide) hso q.1 q.2.1 (by have : ds 3 41 = 0 := rfl; omega) L0 (by first | (intro h; exact absurd h (by decide)) | (intro _ h; exact absurd h (by decide)) | (intro _ _; omega)) (by first | (intro h; exact absurd h (by decide)) | (intro _ h; exact absurd h (by decide)) | (intro _ _; omega)) (by omega) (fun _ _ => rfl)
  refine ⟨g', ?_, a2, ?_, a4, ⟨o'.2.2.2.2.1, o'.2.2.2.1⟩, ⟨v'.2.2.2.1, by have := v'.2.2.2.2.2.2.1; have := v'.2.2.2.2.2.2.2.1; omega⟩⟩
  · unfold GS0; rw [tr_u hk (by decide)]; exact a1
  · unfold LI; rw [tr_u hk (by decide)]; exact a3
theorem EAo_3_41 {P : Prop} {s : rS} {k S : Nat} {g : Nat → Int → Int} {it d lo x y e v n0 l h d' la : Int} (hk : rgk k) (G : Im P (GS0 s k g)) (O : Im P (OP s k g it 41 d lo x y e)) (L : Im P (LI s k g it 3 41 la)) (V : Im P (NR s k g S v n0 l h d')) (hso : ∀ q, so S q → so 4 q) (sd : Im P (x < l ∧ y ≤ l ∧ d + 0 ≤ d' ∧ la ≠ 0 ∧ la < v)) : ∃ g', Im P (GS0 (sT s k 5 la v) k g' ∧ OP (sT s k 5 la v) k g' it 41 d lo h h 1 ∧ LI (sT s k 5 la v) k g' it 3 41 v ∧ KS g g' it v 3 41 ∧ (g 2 it = 100000 ∧ g 3 it = 0) ∧ (g 3 v = 0 ∧ g 2 v ≤ 9000) ∧ g 3 la = it ∧ g 8 la = 3) := by
  refine imx g (fun hp => ?_)
  have q := sd hp
  have o' := O hp
  have v' := V hp
  have L' := L hp
  have hla : la ≠ 0 := q.2.2.2.1
  obtain ⟨g', a1, a2, a3, a4⟩ := GI.app1 (f := 3) (G hp) o' v' L' hla (by decide) (by decide) hso q.1 (by omega) q.2.1 (by have : ds 3 41 = 0 := rfl; omega) (by first | (intro h; exact absurd h (by decide)) | (intro _ h; exact absurd h (by decide)) | (intro _ _; omega))
  have la3 : g 3 la = it := by rcases L' with z | z; exact absurd z.1 hla; exact z.2.2.1
  have la8 : g 8 la = 3 := by rcases L' with z | z; exact absurd z.1 hla; exact z.2.2.2.1
  refine ⟨g', ?_, a2, ?_, a4, ⟨o'.2.2.2.2.1, o'.2.2.2.1⟩, ⟨v'.2.2.2.1, by have := v'.2.2.2.2.2.2.1; have := v'.2.2.2.2.2.2.2.1; omega⟩, la3, la8⟩
  · unfold GS0; rw [tr_u hk (by decide)]; exact a1
  · unfold LI; rw [tr_u hk (by decide)]; exact a3
theorem EHo_1_44 {P : Prop} {s : rS} {k S : Nat} {g : Nat → Int → Int} {it d lo x y e v n0 l h d' : Int} (hk : rgk k) (G : Im P (GS0 s k g)) (O : Im P (OP s k g it 44 d lo x y e)) {la : Int} (L : Im P (LI s k g it 1 44 la)) (V : Im P (NR s k g S v n0 l h d')) (hso : ∀ q, so S q → so 5 q) (sd : Im P (x ≤ l ∧ y ≤ l ∧ d + 0 ≤ d' ∧ la = 0)) : ∃ g', Im P (GS0 (sT s k 1 it v) k g' ∧ OP (sT s k 1 it v) k g' it 44 d lo h h e ∧ LI (sT s k 1 it v) k g' it 1 44 v ∧ KS g g' it v 1 44 ∧ (g 2 it = 100000 ∧ g 3 it = 0) ∧ (g 3 v = 0 ∧ g 2 v ≤ 9000)) := by
  refine imx g (fun hp => ?_)
  have q := sd hp
  have o' := O hp
  have v' := V hp
  have L0 : LI s k g it 1 44 0 := by have := L hp; have e : la = 0 := q.2.2.2; subst e; exact this
  obtain ⟨g', a1, a2, a3, a4⟩ := GI.head (ix := 0) (f := 1) (G hp) o' v' (by decide) hso q.1 q.2.1 (by have : ds 1 44 = 0 := rfl; omega) L0 (by first | (intro h; exact absurd h (by decide)) | (intro _ h; exact absurd h (by decide)) | (intro _ _; omega)) (by first | (intro h; exact absurd h (by decide)) | (intro _ h; exact absurd h (by decide)) | (intro _ _; omega)) (by omega) (fun _ _ => rfl)
  refine ⟨g', ?_, a2, ?_, a4, ⟨o'.2.2.2.2.1, o'.2.2.2.1⟩, ⟨v'.2.2.2.1, by have := v'.2.2.2.2.2.2.1; have := v'.2.2.2.2.2.2.2.1; omega⟩⟩
  · unfold GS0; rw [tr_u hk (by decide)]; exact a1
  · unfold LI; rw [tr_u hk (by decide)]; exact a3
theorem EAo_1_44 {P : Prop} {s : rS} {k S : Nat} {g : Nat → Int → Int} {it d lo x y e v n0 l h d' la : Int} (hk : rgk k) (G : Im P (GS0 s k g)) (O : Im P (OP s k g it 44 d lo x y e)) (L : Im P (LI s k g it 1 44 la)) (V : Im P (NR s k g S v n0 l h d')) (hso : ∀ q, so S q → so 5 q) (sd : Im P (x < l ∧ y ≤ l ∧ d + 0 ≤ d' ∧ la ≠ 0 ∧ la < v)) : ∃ g', Im P (GS0 (sT s k 5 la v) k g' ∧ OP (sT s k 5 la v) k g' it 44 d lo h h e ∧ LI (sT s k 5 la v) k g' it 1 44 v ∧ KS g g' it v 1 44 ∧ (g 2 it = 100000 ∧ g 3 it = 0) ∧ (g 3 v = 0 ∧ g 2 v ≤ 9000) ∧ g 3 la = it ∧ g 8 la = 1) := by
  refine imx g (fun hp => ?_)
  have q := sd hp
  have o' := O hp
  have v' := V hp
  have L' := L hp
  have hla : la ≠ 0 := q.2.2.2.1
  obtain ⟨g', a1, a2, a3, a4⟩ := GI.app1 (f := 1) (G hp) o' v' L' hla (by decide) (by decide) hso q.1 (by omega) q.2.1 (by have : ds 1 44 = 0 := rfl; omega) (by first | (intro h; exact absurd h (by decide)) | (intro _ h; exact absurd h (by decide)) | (intro _ _; omega))
  have la3 : g 3 la = it := by rcases L' with z | z; exact absurd z.1 hla; exact z.2.2.1
  have la8 : g 8 la = 1 := by rcases L' with z | z; exact absurd z.1 hla; exact z.2.2.2.1
  refine ⟨g', ?_, a2, ?_, a4, ⟨o'.2.2.2.2.1, o'.2.2.2.1⟩, ⟨v'.2.2.2.1, by have := v'.2.2.2.2.2.2.1; have := v'.2.2.2.2.2.2.2.1; omega⟩, la3, la8⟩
  · unfold GS0; rw [tr_u hk (by decide)]; exact a1
  · unfold LI; rw [tr_u hk (by decide)]; exact a3
theorem EHo_2_36 {P : Prop} {s : rS} {k S : Nat} {g : Nat → Int → Int} {it d lo x y e v n0 l h d' : Int} (hk : rgk k) (G : Im P (GS0 s k g)) (O : Im P (OP s k g it 36 d lo x y e)) {la : Int} (L : Im P (LI s k g it 2 36 la)) (V : Im P (NR s k g S v n0 l h d')) (hso : ∀ q, so S q → so 6 q) (sd : Im P (x ≤ l ∧ y ≤ l ∧ d + 0 ≤ d' ∧ la = 0)) : ∃ g', Im P (GS0 (sT s k 2 it v) k g' ∧ OP (sT s k 2 it v) k g' it 36 d lo h h e ∧ LI (sT s k 2 it v) k g' it 2 36 v ∧ KS g g' it v 2 36 ∧ (g 2 it = 100000 ∧ g 3 it = 0) ∧ (g 3 v = 0 ∧ g 2 v ≤ 9000)) := by
  refine imx g (fun hp => ?_)
  have q := sd hp
  have o' := O hp
  have v' := V hp
  have L0 : LI s k g it 2 36 0 := by have := L hp; have e : la = 0 := q.2.2.2; subst e; exact this
  obtain ⟨g', a1, a2, a3, a4⟩ := GI.head (ix := 0) (f := 2) (G hp) o' v' (by decide) hso q.1 q.2.1 (by have : ds 2 36 = 0 := rfl; omega) L0 (by first | (intro h; exact absurd h (by decide)) | (intro _ h; exact absurd h (by decide)) | (intro _ _; omega)) (by first | (intro h; exact absurd h (by decide)) | (intro _ h; exact absurd h (by decide)) | (intro _ _; omega)) (by omega) (fun _ _ => rfl)
  refine ⟨g', ?_, a2, ?_, a4, ⟨o'.2.2.2.2.1, o'.2.2.2.1⟩, ⟨v'.2.2.2.1, by have := v'.2.2.2.2.2.2.1; have := v'.2.2.2.2.2.2.2.1; omega⟩⟩
  · unfold GS0; rw [tr_u hk (by decide)]; exact a1
  · unfold LI; rw [tr_u hk (by decide)]; exact a3
theorem EAo_2_36 {P : Prop} {s : rS} {k S : Nat} {g : Nat → Int → Int} {it d lo x y e v n0 l h d' la : Int} (hk : rgk k) (G : Im P (GS0 s k g)) (O : Im P (OP s k g it 36 d lo x y e)) (L : Im P (LI s k g it 2 36 la)) (V : Im P (NR s k g S v n0 l h d')) (hso : ∀ q, so S q → so 6 q) (sd : Im P (x < l ∧ y ≤ l ∧ d + 0 ≤ d' ∧ la ≠ 0 ∧ la < v)) : ∃ g', Im P (GS0 (sT s k 5 la v) k g' ∧ OP (sT s k 5 la v) k g' it 36 d lo h h e ∧ LI (sT s k 5 la v) k g' it 2 36 v ∧ KS g g' it v 2 36 ∧ (g 2 it = 100000 ∧ g 3 it = 0) ∧ (g 3 v = 0 ∧ g 2 v ≤ 9000) ∧ g 3 la = it ∧ g 8 la = 2) := by
  refine imx g (fun hp => ?_)
  have q := sd hp
  have o' := O hp
  have v' := V hp
  have L' := L hp
  have hla : la ≠ 0 := q.2.2.2.1
  obtain ⟨g', a1, a2, a3, a4⟩ := GI.app1 (f := 2) (G hp) o' v' L' hla (by decide) (by decide) hso q.1 (by omega) q.2.1 (by have : ds 2 36 = 0 := rfl; omega) (by first | (intro h; exact absurd h (by decide)) | (intro _ h; exact absurd h (by decide)) | (intro _ _; omega))
  have la3 : g 3 la = it := by rcases L' with z | z; exact absurd z.1 hla; exact z.2.2.1
  have la8 : g 8 la = 2 := by rcases L' with z | z; exact absurd z.1 hla; exact z.2.2.2.1
  refine ⟨g', ?_, a2, ?_, a4, ⟨o'.2.2.2.2.1, o'.2.2.2.1⟩, ⟨v'.2.2.2.1, by have := v'.2.2.2.2.2.2.1; have := v'.2.2.2.2.2.2.2.1; omega⟩, la3, la8⟩
  · unfold GS0; rw [tr_u hk (by decide)]; exact a1
  · unfold LI; rw [tr_u hk (by decide)]; exact a3
theorem EHo_2_45 {P : Prop} {s : rS} {k S : Nat} {g : Nat → Int → Int} {it d lo x y e v n0 l h d' : Int} (hk : rgk k) (G : Im P (GS0 s k g)) (O : Im P (OP s k g it 45 d lo x y e)) {la : Int} (L : Im P (LI s k g it 2 45 la)) (V : Im P (NR s k g S v n0 l h d')) (hso : ∀ q, so S q → so 6 q) (sd : Im P (x ≤ l ∧ y ≤ l ∧ d + 0 ≤ d' ∧ la = 0)) : ∃ g', Im P (GS0 (sT s k 2 it v) k g' ∧ OP (sT s k 2 it v) k g' it 45 d lo h h e ∧ LI (sT s k 2 it v) k g' it 2 45 v ∧ KS g g' it v 2 45 ∧ (g 2 it = 100000 ∧ g 3 it = 0) ∧ (g 3 v = 0 ∧ g 2 v ≤ 9000)) := by
  refine imx g (fun hp => ?_)
  have q := sd hp
  have o' := O hp
  have v' := V hp
  have L0 : LI s k g it 2 45 0 := by have := L hp; have e : la = 0 := q.2.2.2; subst e; exact this
  obtain ⟨g', a1, a2, a3, a4⟩ := GI.head (ix := 0) (f := 2) (G hp) o' v' (by decide) hso q.1 q.2.1 (by have : ds 2 45 = 0 := rfl; omega) L0 (by first | (intro h; exact absurd h (by decide)) | (intro _ h; exact absurd h (by decide)) | (intro _ _; omega)) (by first | (intro h; exact absurd h (by decide)) | (intro _ h; exact absurd h (by decide)) | (intro _ _; omega)) (by omega) (fun _ _ => rfl)
  refine ⟨g', ?_, a2, ?_, a4, ⟨o'.2.2.2.2.1, o'.2.2.2.1⟩, ⟨v'.2.2.2.1, by have := v'.2.2.2.2.2.2.1; have := v'.2.2.2.2.2.2.2.1; omega⟩⟩
  · unfold GS0; rw [tr_u hk (by decide)]; exact a1
  · unfold LI; rw [tr_u hk (by decide)]; exact a3
theorem EAo_2_45 {P : Prop} {s : rS} {k S : Nat} {g : Nat → Int → Int} {it d lo x y e v n0 l h d' la : Int} (hk : rgk k) (G : Im P (GS0 s k g)) (O : Im P (OP s k g it 45 d lo x y e)) (L : Im P (LI s k g it 2 45 la)) (V : Im P (NR s k g S v n0 l h d')) (hso : ∀ q, so S q → so 6 q) (sd : Im P (x < l ∧ y ≤ l ∧ d + 0 ≤ d' ∧ la ≠ 0 ∧ la < v)) : ∃ g', Im P (GS0 (sT s k 5 la v) k g' ∧ OP (sT s k 5 la v) k g' it 45 d lo h h e ∧ LI (sT s k 5 la v) k g' it 2 45 v ∧ KS g g' it v 2 45 ∧ (g 2 it = 100000 ∧ g 3 it = 0) ∧ (g 3 v = 0 ∧ g 2 v ≤ 9000) ∧ g 3 la = it ∧ g 8 la = 2) := by
  refine imx g (fun hp => ?_)
  have q := sd hp
  have o' := O hp
  have v' := V hp
  have L' := L hp
  have hla : la ≠ 0 := q.2.2.2.1
  obtain ⟨g', a1, a2, a3, a4⟩ := GI.app1 (f := 2) (G hp) o' v' L' hla (by decide) (by decide) hso q.1 (by omega) q.2.1 (by have : ds 2 45 = 0 := rfl; omega) (by first | (intro h; exact absurd h (by decide)) | (intro _ h; exact absurd h (by decide)) | (intro _ _; omega))
  have la3 : g 3 la = it := by rcases L' with z | z; exact absurd z.1 hla; exact z.2.2.1
  have la8 : g 8 la = 2 := by rcases L' with z | z; exact absurd z.1 hla; exact z.2.2.2.1
  refine ⟨g', ?_, a2, ?_, a4, ⟨o'.2.2.2.2.1, o'.2.2.2.1⟩, ⟨v'.2.2.2.1, by have := v'.2.2.2.2.2.2.1; have := v'.2.2.2.2.2.2.2.1; omega⟩, la3, la8⟩
  · unfold GS0; rw [tr_u hk (by decide)]; exact a1
  · unfold LI; rw [tr_u hk (by decide)]; exact a3
theorem EHo_1_37 {P : Prop} {s : rS} {k S : Nat} {g : Nat → Int → Int} {it d lo x y e v n0 l h d' : Int} (hk : rgk k) (G : Im P (GS0 s k g)) (O : Im P (OP s k g it 37 d lo x y e)) (V : Im P (NR s k g S v n0 l h d')) (hso : ∀ q, so S q → so 1 q) (sd : Im P (x ≤ l ∧ y ≤ l ∧ d + 1 ≤ d' ∧ x < 0)) : ∃ g', Im P (GS0 (sT s k 1 it v) k g' ∧ OP (sT s k 1 it v) k g' it 37 d lo h h e ∧ LI (sT s k 1 it v) k g' it 1 37 v ∧ KS g g' it v 1 37 ∧ (g 2 it = 100000 ∧ g 3 it = 0) ∧ (g 3 v = 0 ∧ g 2 v ≤ 9000)) := by
  refine imx g (fun hp => ?_)
  have q := sd hp
  have o' := O hp
  have v' := V hp
  have L0 : LI s k g it 1 37 0 := LI.z (fun h => absurd h (by decide))
  obtain ⟨g', a1, a2, a3, a4⟩ := GI.head (ix := 0) (f := 1) (G hp) o' v' (by decide) hso q.1 q.2.1 (by have : ds 1 37 = 1 := rfl; omega) L0 (by first | (intro h; exact absurd h (by decide)) | (intro _ h; exact absurd h (by decide)) | (intro _ _; omega)) (by first | (intro h; exact absurd h (by decide)) | (intro _ h; exact absurd h (by decide)) | (intro _ _; omega)) (by omega) (fun _ _ => rfl)
  refine ⟨g', ?_, a2, ?_, a4, ⟨o'.2.2.2.2.1, o'.2.2.2.1⟩, ⟨v'.2.2.2.1, by have := v'.2.2.2.2.2.2.1; have := v'.2.2.2.2.2.2.2.1; omega⟩⟩
  · unfold GS0; rw [tr_u hk (by decide)]; exact a1
  · unfold LI; rw [tr_u hk (by decide)]; exact a3
theorem EHo_2_37 {P : Prop} {s : rS} {k S : Nat} {g : Nat → Int → Int} {it d lo x y e v n0 l h d' : Int} (hk : rgk k) (G : Im P (GS0 s k g)) (O : Im P (OP s k g it 37 d lo x y e)) {la : Int} (L : Im P (LI s k g it 2 37 la)) (V : Im P (NR s k g S v n0 l h d')) (hso : ∀ q, so S q → so 6 q) (sd : Im P (x ≤ l ∧ y ≤ l ∧ d + 0 ≤ d' ∧ la = 0)) : ∃ g', Im P (GS0 (sT s k 2 it v) k g' ∧ OP (sT s k 2 it v) k g' it 37 d lo h h e ∧ LI (sT s k 2 it v) k g' it 2 37 v ∧ KS g g' it v 2 37 ∧ (g 2 it = 100000 ∧ g 3 it = 0) ∧ (g 3 v = 0 ∧ g 2 v ≤ 9000)) := by
  refine imx g (fun hp => ?_)
  have q := sd hp
  have o' := O hp
  have v' := V hp
  have L0 : LI s k g it 2 37 0 := by have := L hp; have e : la = 0 := q.2.2.2; subst e; exact this
  obtain ⟨g', a1, a2, a3, a4⟩ := GI.head (ix := 0) (f := 2) (G hp) o' v' (by decide) hso q.1 q.2.1 (by have : ds 2 37 = 0 := rfl; omega) L0 (by first | (intro h; exact absurd h (by decide)) | (intro _ h; exact absurd h (by decide)) | (intro _ _; omega)) (by first | (intro h; exact absurd h (by decide)) | (intro _ h; exact absurd h (by decide)) | (intro _ _; omega)) (by omega) (fun _ _ => rfl)
  refine ⟨g', ?_, a2, ?_, a4, ⟨o'.2.2.2.2.1, o'.2.2.2.1⟩, ⟨v'.2.2.2.1, by have := v'.2.2.2.2.2.2.1; have := v'.2.2.2.2.2.2.2.1; omega⟩⟩
  · unfold GS0; rw [tr_u hk (by decide)]; exact a1
  · unfold LI; rw [tr_u hk (by decide)]; exact a3
theorem EAo_2_37 {P : Prop} {s : rS} {k S : Nat} {g : Nat → Int → Int} {it d lo x y e v n0 l h d' la : Int} (hk : rgk k) (G : Im P (GS0 s k g)) (O : Im P (OP s k g it 37 d lo x y e)) (L : Im P (LI s k g it 2 37 la)) (V : Im P (NR s k g S v n0 l h d')) (hso : ∀ q, so S q → so 6 q) (sd : Im P (x < l ∧ y ≤ l ∧ d + 0 ≤ d' ∧ la ≠ 0 ∧ la < v)) : ∃ g', Im P (GS0 (sT s k 5 la v) k g' ∧ OP (sT s k 5 la v) k g' it 37 d lo h h e ∧ LI (sT s k 5 la v) k g' it 2 37 v ∧ KS g g' it v 2 37 ∧ (g 2 it = 100000 ∧ g 3 it = 0) ∧ (g 3 v = 0 ∧ g 2 v ≤ 9000) ∧ g 3 la = it ∧ g 8 la = 2) := by
  refine imx g (fun hp => ?_)
  have q := sd hp
  have o' := O hp
  have v' := V hp
  have L' := L hp
  have hla : la ≠ 0 := q.2.2.2.1
  obtain ⟨g', a1, a2, a3, a4⟩ := GI.app1 (f := 2) (G hp) o' v' L' hla (by decide) (by decide) hso q.1 (by omega) q.2.1 (by have : ds 2 37 = 0 := rfl; omega) (by first | (intro h; exact absurd h (by decide)) | (intro _ h; exact absurd h (by decide)) | (intro _ _; omega))
  have la3 : g 3 la = it := by rcases L' with z | z; exact absurd z.1 hla; exact z.2.2.1
  have la8 : g 8 la = 2 := by rcases L' with z | z; exact absurd z.1 hla; exact z.2.2.2.1
  refine ⟨g', ?_, a2, ?_, a4, ⟨o'.2.2.2.2.1, o'.2.2.2.1⟩, ⟨v'.2.2.2.1, by have := v'.2.2.2.2.2.2.1; have := v'.2.2.2.2.2.2.2.1; omega⟩, la3, la8⟩
  · unfold GS0; rw [tr_u hk (by decide)]; exact a1
  · unfold LI; rw [tr_u hk (by decide)]; exact a3
theorem EHo_1_46 {P : Prop} {s : rS} {k S : Nat} {g : Nat → Int → Int} {it d lo x y e v n0 l h d' : Int} (hk : rgk k) (G : Im P (GS0 s k g)) (O : Im P (OP s k g it 46 d lo x y e)) (V : Im P (NR s k g S v n0 l h d')) (hso : ∀ q, so S q → so 1 q) (sd : Im P (x ≤ l ∧ y ≤ l ∧ d + 1 ≤ d' ∧ x < 0)) : ∃ g', Im P (GS0 (sT s k 1 it v) k g' ∧ OP (sT s k 1 it v) k g' it 46 d lo h h e ∧ LI (sT s k 1 it v) k g' it 1 46 v ∧ KS g g' it v 1 46 ∧ (g 2 it = 100000 ∧ g 3 it = 0) ∧ (g 3 v = 0 ∧ g 2 v ≤ 9000)) := by
  refine imx g (fun hp => ?_)
  have q := sd hp
  have o' := O hp
  have v' := V hp
  have L0 : LI s k g it 1 46 0 := LI.z (fun h => absurd h (by decide))
  obtain ⟨g', a1, a2, a3, a4⟩ := GI.head (ix := 0) (f := 1) (G hp) o' v' (by decide) hso q.1 q.2.1 (by have : ds 1 46 = 1 := rfl; omega) L0 (by first | (intro h; exact absurd h (by decide)) | (intro _ h; exact absurd h (by decide)) | (intro _ _; omega)) (by first | (intro h; exact absurd h (by decide)) | (intro _ h; exact absurd h (by decide)) | (intro _ _; omega)) (by omega) (fun _ _ => rfl)
  refine ⟨g', ?_, a2, ?_, a4, ⟨o'.2.2.2.2.1, o'.2.2.2.1⟩, ⟨v'.2.2.2.1, by have := v'.2.2.2.2.2.2.1; have := v'.2.2.2.2.2.2.2.1; omega⟩⟩
  · unfold GS0; rw [tr_u hk (by decide)]; exact a1
  · unfold LI; rw [tr_u hk (by decide)]; exact a3
theorem EHo_2_46 {P : Prop} {s : rS} {k S : Nat} {g : Nat → Int → Int} {it d lo x y e v n0 l h d' : Int} (hk : rgk k) (G : Im P (GS0 s k g)) (O : Im P (OP s k g it 46 d lo x y e)) {la : Int} (L : Im P (LI s k g it 2 46 la)) (V : Im P (NR s k g S v n0 l h d')) (hso : ∀ q, so S q → so 6 q) (sd : Im P (x ≤ l ∧ y ≤ l ∧ d + 0 ≤ d' ∧ la = 0)) : ∃ g', Im P (GS0 (sT s k 2 it v) k g' ∧ OP (sT s k 2 it v) k g' it 46 d lo h h e ∧ LI (sT s k 2 it v) k g' it 2 46 v ∧ KS g g' it v 2 46 ∧ (g 2 it = 100000 ∧ g 3 it = 0) ∧ (g 3 v = 0 ∧ g 2 v ≤ 9000)) := by
  refine imx g (fun hp => ?_)
  have q := sd hp
  have o' := O hp
  have v' := V hp
  have L0 : LI s k g it 2 46 0 := by have := L hp; have e : la = 0 := q.2.2.2; subst e; exact this
  obtain ⟨g', a1, a2, a3, a4⟩ := GI.head (ix := 0) (f := 2) (G hp) o' v' (by decide) hso q.1 q.2.1 (by have : ds 2 46 = 0 := rfl; omega) L0 (by first | (intro h; exact absurd h (by decide)) | (intro _ h; exact absurd h (by decide)) | (intro _ _; omega)) (by first | (intro h; exact absurd h (by decide)) | (intro _ h; exact absurd h (by decide)) | (intro _ _; omega)) (by omega) (fun _ _ => rfl)
  refine ⟨g', ?_, a2, ?_, a4, ⟨o'.2.2.2.2.1, o'.2.2.2.1⟩, ⟨v'.2.2.2.1, by have := v'.2.2.2.2.2.2.1; have := v'.2.2.2.2.2.2.2.1; omega⟩⟩
  · unfold GS0; rw [tr_u hk (by decide)]; exact a1
  · unfold LI; rw [tr_u hk (by decide)]; exact a3
theorem EAo_2_46 {P : Prop} {s : rS} {k S : Nat} {g : Nat → Int → Int} {it d lo x y e v n0 l h d' la : Int} (hk : rgk k) (G : Im P (GS0 s k g)) (O : Im P (OP s k g it 46 d lo x y e)) (L : Im P (LI s k g it 2 46 la)) (V : Im P (NR s k g S v n0 l h d')) (hso : ∀ q, so S q → so 6 q) (sd : Im P (x < l ∧ y ≤ l ∧ d + 0 ≤ d' ∧ la ≠ 0 ∧ la < v)) : ∃ g', Im P (GS0 (sT s k 5 la v) k g' ∧ OP (sT s k 5 la v) k g' it 46 d lo h h e ∧ LI (sT s k 5 la v) k g' it 2 46 v ∧ KS g g' it v 2 46 ∧ (g 2 it = 100000 ∧ g 3 it = 0) ∧ (g 3 v = 0 ∧ g 2 v ≤ 9000) ∧ g 3 la = it ∧ g 8 la = 2) := by
  refine imx g (fun hp => ?_)
  have q := sd hp
  have o' := O hp
  have v' := V hp
  have L' := L hp
  have hla : la ≠ 0 := q.2.2.2.1
  obtain ⟨g', a1, a2, a3, a4⟩ := GI.app1 (f := 2) (G hp) o' v' L' hla (by decide) (by decide) hso q.1 (by omega) q.2.1 (by have : ds 2 46 = 0 := rfl; omega) (by first | (intro h; exact absurd h (by decide)) | (intro _ h; exact absurd h (by decide)) | (intro _ _; omega))
  have la3 : g 3 la = it := by rcases L' with z | z; exact absurd z.1 hla; exact z.2.2.1
  have la8 : g 8 la = 2 := by rcases L' with z | z; exact absurd z.1 hla; exact z.2.2.2.1
  refine ⟨g', ?_, a2, ?_, a4, ⟨o'.2.2.2.2.1, o'.2.2.2.1⟩, ⟨v'.2.2.2.1, by have := v'.2.2.2.2.2.2.1; have := v'.2.2.2.2.2.2.2.1; omega⟩, la3, la8⟩
  · unfold GS0; rw [tr_u hk (by decide)]; exact a1
  · unfold LI; rw [tr_u hk (by decide)]; exact a3
theorem EHo_2_38 {P : Prop} {s : rS} {k S : Nat} {g : Nat → Int → Int} {it d lo x y e v n0 l h d' : Int} (hk : rgk k) (G : Im P (GS0 s k g)) (O : Im P (OP s k g it 38 d lo x y e)) (V : Im P (NR s k g S v n0 l h d')) (hso : ∀ q, so S q → so 1 q) (sd : Im P (x ≤ l ∧ y ≤ l ∧ d + 1 ≤ d')) : ∃ g', Im P (GS0 (sT s k 2 it v) k g' ∧ OP (sT s k 2 it v) k g' it 38 d lo h h e ∧ LI (sT s k 2 it v) k g' it 2 38 v ∧ KS g g' it v 2 38 ∧ (g 2 it = 100000 ∧ g 3 it = 0) ∧ (g 3 v = 0 ∧ g 2 v ≤ 9000)) := by
  refine imx g (fun hp => ?_)
  have q := sd hp
  have o' := O hp
  have v' := V hp
  have L0 : LI s k g it 2 38 0 := LI.z (fun h => absurd h (by decide))
  obtain ⟨g', a1, a2, a3, a4⟩ := GI.head (ix := 0) (f := 2) (G hp) o' v' (by decide) hso q.1 q.2.1 (by have : ds 2 38 = 1 := rfl; omega) L0 (by first | (intro h; exact absurd h (by decide)) | (intro _ h; exact absurd h (by decide)) | (intro _ _; omega)) (by first | (intro h; exact absurd h (by decide)) | (intro _ h; exact absurd h (by decide)) | (intro _ _; omega)) (by omega) (fun _ _ => rfl)
  refine ⟨g', ?_, a2, ?_, a4, ⟨o'.2.2.2.2.1, o'.2.2.2.1⟩, ⟨v'.2.2.2.1, by have := v'.2.2.2.2.2.2.1; have := v'.2.2.2.2.2.2.2.1; omega⟩⟩
  · unfold GS0; rw [tr_u hk (by decide)]; exact a1
  · unfold LI; rw [tr_u hk (by decide)]; exact a3
theorem EHo_1_39 {P : Prop} {s : rS} {k S : Nat} {g : Nat → Int → Int} {it d lo x y e v n0 l h d' : Int} (hk : rgk k) (G : Im P (GS0 s k g)) (O : Im P (OP s k g it 39 d lo x y e)) (V : Im P (NR s k g S v n0 l h d')) (hso : ∀ q, so S q → so 1 q) (sd : Im P (x ≤ l ∧ y ≤ l ∧ d + 1 ≤ d')) : ∃ g', Im P (GS0 (sT s k 1 it v) k g' ∧ OP (sT s k 1 it v) k g' it 39 d lo h h e ∧ LI (sT s k 1 it v) k g' it 1 39 v ∧ KS g g' it v 1 39 ∧ (g 2 it = 100000 ∧ g 3 it = 0) ∧ (g 3 v = 0 ∧ g 2 v ≤ 9000)) := by
  refine imx g (fun hp => ?_)
  have q := sd hp
  have o' := O hp
  have v' := V hp
  have L0 : LI s k g it 1 39 0 := LI.z (fun h => absurd h (by decide))
  obtain ⟨g', a1, a2, a3, a4⟩ := GI.head (ix := 0) (f := 1) (G hp) o' v' (by decide) hso q.1 q.2.1 (by have : ds 1 39 = 1 := rfl; omega) L0 (by first | (intro h; exact absurd h (by decide)) | (intro _ h; exact absurd h (by decide)) | (intro _ _; omega)) (by first | (intro h; exact absurd h (by decide)) | (intro _ h; exact absurd h (by decide)) | (intro _ _; omega)) (by omega) (fun _ _ => rfl)
  refine ⟨g', ?_, a2, ?_, a4, ⟨o'.2.2.2.2.1, o'.2.2.2.1⟩, ⟨v'.2.2.2.1, by have := v'.2.2.2.2.2.2.1; have := v'.2.2.2.2.2.2.2.1; omega⟩⟩
  · unfold GS0; rw [tr_u hk (by decide)]; exact a1
  · unfold LI; rw [tr_u hk (by decide)]; exact a3
theorem EHo_1_43 {P : Prop} {s : rS} {k S : Nat} {g : Nat → Int → Int} {it d lo x y e v n0 l h d' : Int} (hk : rgk k) (G : Im P (GS0 s k g)) (O : Im P (OP s k g it 43 d lo x y e)) (V : Im P (NR s k g S v n0 l h d')) (hso : ∀ q, so S q → so 1 q) (sd : Im P (x ≤ l ∧ y ≤ l ∧ d + 1 ≤ d')) : ∃ g', Im P (GS0 (sT s k 1 it v) k g' ∧ OP (sT s k 1 it v) k g' it 43 d lo h h e ∧ LI (sT s k 1 it v) k g' it 1 43 v ∧ KS g g' it v 1 43 ∧ (g 2 it = 100000 ∧ g 3 it = 0) ∧ (g 3 v = 0 ∧ g 2 v ≤ 9000)) := by
  refine imx g (fun hp => ?_)
  have q := sd hp
  have o' := O hp
  have v' := V hp
  have L0 : LI s k g it 1 43 0 := LI.z (fun h => absurd h (by decide))
  obtain ⟨g', a1, a2, a3, a4⟩ := GI.head (ix := 0) (f := 1) (G hp) o' v' (by decide) hso q.1 q.2.1 (by have : ds 1 43 = 1 := rfl; omega) L0 (by first | (intro h; exact absurd h (by decide)) | (intro _ h; exact absurd h (by decide)) | (intro _ _; omega)) (by first | (intro h; exact absurd h (by decide)) | (intro _ h; exact absurd h (by decide)) | (intro _ _; omega)) (by omega) (fun _ _ => rfl)
  refine ⟨g', ?_, a2, ?_, a4, ⟨o'.2.2.2.2.1, o'.2.2.2.1⟩, ⟨v'.2.2.2.1, by have := v'.2.2.2.2.2.2.1; have := v'.2.2.2.2.2.2.2.1; omega⟩⟩
  · unfold GS0; rw [tr_u hk (by decide)]; exact a1
  · unfold LI; rw [tr_u hk (by decide)]; exact a3
theorem EHo_1_50 {P : Prop} {s : rS} {k S : Nat} {g : Nat → Int → Int} {it d lo x y e v n0 l h d' : Int} (hk : rgk k) (G : Im P (GS0 s k g)) (O : Im P (OP s k g it 50 d lo x y e)) (V : Im P (NR s k g S v n0 l h d')) (hso : ∀ q, so S q → so 1 q) (sd : Im P (x ≤ l ∧ y ≤ l ∧ d + 1 ≤ d')) : ∃ g', Im P (GS0 (sT s k 1 it v) k g' ∧ OP (sT s k 1 it v) k g' it 50 d lo h h e ∧ LI (sT s k 1 it v) k g' it 1 50 v ∧ KS g g' it v 1 50 ∧ (g 2 it = 100000 ∧ g 3 it = 0) ∧ (g 3 v = 0 ∧ g 2 v ≤ 9000)) := by
  refine imx g (fun hp => ?_)
  have q := sd hp
  have o' := O hp
  have v' := V hp
  have L0 : LI s k g it 1 50 0 := LI.z (fun h => absurd h (by decide))
  obtain ⟨g', a1, a2, a3, a4⟩ := GI.head (ix := 0) (f := 1) (G hp) o' v' (by decide) hso q.1 q.2.1 (by have : ds 1 50 = 1 := rfl; omega) L0 (by first | (intro h; exact absurd h (by decide)) | (intro _ h; exact absurd h (by decide)) | (intro _ _; omega)) (by first | (intro h; exact absurd h (by decide)) | (intro _ h; exact absurd h (by decide)) | (intro _ _; omega)) (by omega) (fun _ _ => rfl)
  refine ⟨g', ?_, a2, ?_, a4, ⟨o'.2.2.2.2.1, o'.2.2.2.1⟩, ⟨v'.2.2.2.1, by have := v'.2.2.2.2.2.2.1; have := v'.2.2.2.2.2.2.2.1; omega⟩⟩
  · unfold GS0; rw [tr_u hk (by decide)]; exact a1
  · unfold LI; rw [tr_u hk (by decide)]; exact a3
theorem EHo_1_51 {P : Prop} {s : rS} {k S : Nat} {g : Nat → Int → Int} {it d lo x y e v n0 l h d' : Int} (hk : rgk k) (G : Im P (GS0 s k g)) (O : Im P (OP s k g it 51 d lo x y e)) (V : Im P (NR s k g S v n0 l h d')) (hso : ∀ q, so S q → so 1 q) (sd : Im P (x ≤ l ∧ y ≤ l ∧ d + 1 ≤ d')) : ∃ g', Im P (GS0 (sT s k 1 it v) k g' ∧ OP (sT s k 1 it v) k g' it 51 d lo h h e ∧ LI (sT s k 1 it v) k g' it 1 51 v ∧ KS g g' it v 1 51 ∧ (g 2 it = 100000 ∧ g 3 it = 0) ∧ (g 3 v = 0 ∧ g 2 v ≤ 9000)) := by
  refine imx g (fun hp => ?_)
  have q := sd hp
  have o' := O hp
  have v' := V hp
  have L0 : LI s k g it 1 51 0 := LI.z (fun h => absurd h (by decide))
  obtain ⟨g', a1, a2, a3, a4⟩ := GI.head (ix := 0) (f := 1) (G hp) o' v' (by decide) hso q.1 q.2.1 (by have : ds 1 51 = 1 := rfl; omega) L0 (by first | (intro h; exact absurd h (by decide)) | (intro _ h; exact absurd h (by decide)) | (intro _ _; omega)) (by first | (intro h; exact absurd h (by decide)) | (intro _ h; exact absurd h (by decide)) | (intro _ _; omega)) (by omega) (fun _ _ => rfl)
  refine ⟨g', ?_, a2, ?_, a4, ⟨o'.2.2.2.2.1, o'.2.2.2.1⟩, ⟨v'.2.2.2.1, by have := v'.2.2.2.2.2.2.1; have := v'.2.2.2.2.2.2.2.1; omega⟩⟩
  · unfold GS0; rw [tr_u hk (by decide)]; exact a1
  · unfold LI; rw [tr_u hk (by decide)]; exact a3
theorem EHo_1_60 {P : Prop} {s : rS} {k S : Nat} {g : Nat → Int → Int} {it d lo x y e v n0 l h d' : Int} (hk : rgk k) (G : Im P (GS0 s k g)) (O : Im P (OP s k g it 60 d lo x y e)) (V : Im P (NR s k g S v n0 l h d')) (hso : ∀ q, so S q → so 1 q) (sd : Im P (x ≤ l ∧ y ≤ l ∧ d + 1 ≤ d')) : ∃ g', Im P (GS0 (sT s k 1 it v) k g' ∧ OP (sT s k 1 it v) k g' it 60 d lo h h e ∧ LI (sT s k 1 it v) k g' it 1 60 v ∧ KS g g' it v 1 60 ∧ (g 2 it = 100000 ∧ g 3 it = 0) ∧ (g 3 v = 0 ∧ g 2 v ≤ 9000)) := by
  refine imx g (fun hp => ?_)
  have q := sd hp
  have o' := O hp
  have v' := V hp
  have L0 : LI s k g it 1 60 0 := LI.z (fun h => absurd h (by decide))
  obtain ⟨g', a1, a2, a3, a4⟩ := GI.head (ix := 0) (f := 1) (G hp) o' v' (by decide) hso q.1 q.2.1 (by have : ds 1 60 = 1 := rfl; omega) L0 (by first | (intro h; exact absurd h (by decide)) | (intro _ h; exact absurd h (by decide)) | (intro _ _; omega)) (by first | (intro h; exact absurd h (by decide)) | (intro _ h; exact absurd h (by decide)) | (intro _ _; omega)) (by omega) (fun _ _ => rfl)
  refine ⟨g', ?_, a2, ?_, a4, ⟨o'.2.2.2.2.1, o'.2.2.2.1⟩, ⟨v'.2.2.2.1, by have := v'.2.2.2.2.2.2.1; have := v'.2.2.2.2.2.2.2.1; omega⟩⟩
  · unfold GS0; rw [tr_u hk (by decide)]; exact a1
  · unfold LI; rw [tr_u hk (by decide)]; exact a3
theorem EHo_1_58 {P : Prop} {s : rS} {k S : Nat} {g : Nat → Int → Int} {it d lo x y e v n0 l h d' : Int} (hk : rgk k) (G : Im P (GS0 s k g)) (O : Im P (OP s k g it 58 d lo x y e)) (V : Im P (NR s k g S v n0 l h d')) (hso : ∀ q, so S q → so 1 q) (sd : Im P (x ≤ l ∧ y ≤ l ∧ d + (-100) ≤ d')) : ∃ g', Im P (GS0 (sT s k 1 it v) k g' ∧ OP (sT s k 1 it v) k g' it 58 d lo h h e ∧ LI (sT s k 1 it v) k g' it 1 58 v ∧ KS g g' it v 1 58 ∧ (g 2 it = 100000 ∧ g 3 it = 0) ∧ (g 3 v = 0 ∧ g 2 v ≤ 9000)) := by
  refine imx g (fun hp => ?_)
  have q := sd hp
  have o' := O hp
  have v' := V hp
  have L0 : LI s k g it 1 58 0 := LI.z (fun h => absurd h (by decide))
  obtain ⟨g', a1, a2, a3, a4⟩ := GI.head (ix := 0) (f := 1) (G hp) o' v' (by decide) hso q.1 q.2.1 (by have : ds 1 58 = (-100) := rfl; omega) L0 (by first | (intro h; exact absurd h (by decide)) | (intro _ h; exact absurd h (by decide)) | (intro _ _; omega)) (by first | (intro h; exact absurd h (by decide)) | (intro _ h; exact absurd h (by decide)) | (intro _ _; omega)) (by omega) (fun _ _ => rfl)
  refine ⟨g', ?_, a2, ?_, a4, ⟨o'.2.2.2.2.1, o'.2.2.2.1⟩, ⟨v'.2.2.2.1, by have := v'.2.2.2.2.2.2.1; have := v'.2.2.2.2.2.2.2.1; omega⟩⟩
  · unfold GS0; rw [tr_u hk (by decide)]; exact a1
  · unfold LI; rw [tr_u hk (by decide)]; exact a3
theorem EHo_1_40 {P : Prop} {s : rS} {k S : Nat} {g : Nat → Int → Int} {it d lo x y e v n0 l h d' : Int} (hk : rgk k) (G : Im P (GS0 s k g)) (O : Im P (OP s k g it 40 d lo x y e)) {la : Int} (L : Im P (LI s k g it 1 40 la)) (V : Im P (NR s k g S v n0 l h d')) (hso : ∀ q, so S q → so 1 q) (sd : Im P (x ≤ l ∧ y ≤ l ∧ d + 1 ≤ d' ∧ la = 0 ∧ x < 0)) : ∃ g', Im P (GS0 (sT s k 1 it v) k g' ∧ OP (sT s k 1 it v) k g' it 40 d lo h h e ∧ LI (sT s k 1 it v) k g' it 1 40 v ∧ KS g g' it v 1 40 ∧ (g 2 it = 100000 ∧ g 3 it = 0) ∧ (g 3 v = 0 ∧ g 2 v ≤ 9000)) := by
  refine imx g (fun hp => ?_)
  have q := sd hp
  have o' := O hp
  have v' := V hp
  have L0 : LI s k g it 1 40 0 := by have := L hp; have e : la = 0 := q.2.2.2.1; subst e; exact this
  obtain ⟨g', a1, a2, a3, a4⟩ := GI.head (ix := 0) (f := 1) (G hp) o' v' (by decide) hso q.1 q.2.1 (by have : ds 1 40 = 1 := rfl; omega) L0 (by first | (intro h; exact absurd h (by decide)) | (intro _ h; exact absurd h (by decide)) | (intro _ _; omega)) (by first | (intro h; exact absurd h (by decide)) | (intro _ h; exact absurd h (by decide)) | (intro _ _; omega)) (by omega) (fun _ _ => rfl)
  refine ⟨g', ?_, a2, ?_, a4, ⟨o'.2.2.2.2.1, o'.2.2.2.1⟩, ⟨v'.2.2.2.1, by have := v'.2.2.2.2.2.2.1; have := v'.2.2.2.2.2.2.2.1; omega⟩⟩
  · unfold GS0; rw [tr_u hk (by decide)]; exact a1
  · unfold LI; rw [tr_u hk (by decide)]; exact a3
theorem EAo_1_40 {P : Prop} {s : rS} {k S : Nat} {g : Nat → Int → Int} {it d lo x y e v n0 l h d' la : Int} (hk : rgk k) (G : Im P (GS0 s k g)) (O : Im P (OP s k g it 40 d lo x y e)) (L : Im P (LI s k g it 1 40 la)) (V : Im P (NR s k g S v n0 l h d')) (hso : ∀ q, so S q → so 1 q) (sd : Im P (x < l ∧ y ≤ l ∧ d + 1 ≤ d' ∧ la ≠ 0 ∧ la < v)) : ∃ g', Im P (GS0 (sT s k 5 la v) k g' ∧ OP (sT s k 5 la v) k g' it 40 d lo h h e ∧ LI (sT s k 5 la v) k g' it 1 40 v ∧ KS g g' it v 1 40 ∧ (g 2 it = 100000 ∧ g 3 it = 0) ∧ (g 3 v = 0 ∧ g 2 v ≤ 9000) ∧ g 3 la = it ∧ g 8 la = 1) := by
  refine imx g (fun hp => ?_)
  have q := sd hp
  have o' := O hp
  have v' := V hp
  have L' := L hp
  have hla : la ≠ 0 := q.2.2.2.1
  obtain ⟨g', a1, a2, a3, a4⟩ := GI.app1 (f := 1) (G hp) o' v' L' hla (by decide) (by decide) hso q.1 (by omega) q.2.1 (by have : ds 1 40 = 1 := rfl; omega) (by first | (intro h; exact absurd h (by decide)) | (intro _ h; exact absurd h (by decide)) | (intro _ _; omega))
  have la3 : g 3 la = it := by rcases L' with z | z; exact absurd z.1 hla; exact z.2.2.1
  have la8 : g 8 la = 1 := by rcases L' with z | z; exact absurd z.1 hla; exact z.2.2.2.1
  refine ⟨g', ?_, a2, ?_, a4, ⟨o'.2.2.2.2.1, o'.2.2.2.1⟩, ⟨v'.2.2.2.1, by have := v'.2.2.2.2.2.2.1; have := v'.2.2.2.2.2.2.2.1; omega⟩, la3, la8⟩
  · unfold GS0; rw [tr_u hk (by decide)]; exact a1
  · unfold LI; rw [tr_u hk (by decide)]; exact a3
theorem EHo_2_40 {P : Prop} {s : rS} {k S : Nat} {g : Nat → Int → Int} {it d lo x y e v n0 l h d' : Int} (hk : rgk k) (G : Im P (GS0 s k g)) (O : Im P (OP s k g it 40 d lo x y e)) (V : Im P (NR s k g S v n0 l h d')) (hso : ∀ q, so S q → so 10 q) (sd : Im P (x ≤ l ∧ y ≤ l ∧ d + (-100) ≤ d')) : ∃ g', Im P (GS0 (sT s k 2 it v) k g' ∧ OP (sT s k 2 it v) k g' it 40 d lo h h e ∧ LI (sT s k 2 it v) k g' it 2 40 v ∧ KS g g' it v 2 40 ∧ (g 2 it = 100000 ∧ g 3 it = 0) ∧ (g 3 v = 0 ∧ g 2 v ≤ 9000)) := by
  refine imx g (fun hp => ?_)
  have q := sd hp
  have o' := O hp
  have v' := V hp
  have L0 : LI s k g it 2 40 0 := LI.z (fun h => absurd h (by decide))
  obtain ⟨g', a1, a2, a3, a4⟩ := GI.head (ix := 0) (f := 2) (G hp) o' v' (by decide) hso q.1 q.2.1 (by have : ds 2 40 = (-100) := rfl; omega) L0 (by first | (intro h; exact absurd h (by decide)) | (intro _ h; exact absurd h (by decide)) | (intro _ _; omega)) (by first | (intro h; exact absurd h (by decide)) | (intro _ h; exact absurd h (by decide)) | (intro _ _; omega)) (by omega) (fun _ _ => rfl)
  refine ⟨g', ?_, a2, ?_, a4, ⟨o'.2.2.2.2.1, o'.2.2.2.1⟩, ⟨v'.2.2.2.1, by have := v'.2.2.2.2.2.2.1; have := v'.2.2.2.2.2.2.2.1; omega⟩⟩
  · unfold GS0; rw [tr_u hk (by decide)]; exact a1
  · unfold LI; rw [tr_u hk (by decide)]; exact a3
theorem EHo_1_47 {P : Prop} {s : rS} {k S : Nat} {g : Nat → Int → Int} {it d lo x y e v n0 l h d' : Int} (hk : rgk k) (G : Im P (GS0 s k g)) (O : Im P (OP s k g it 47 d lo x y e)) (V : Im P (NR s k g S v n0 l h d')) (hso : ∀ q, so S q → so 10 q) (sd : Im P (x ≤ l ∧ y ≤ l ∧ d + (-100) ≤ d')) : ∃ g', Im P (GS0 (sT s k 1 it v) k g' ∧ OP (sT s k 1 it v) k g' it 47 d lo h h e ∧ LI (sT s k 1 it v) k g' it 1 47 v ∧ KS g g' it v 1 47 ∧ (g 2 it = 100000 ∧ g 3 it = 0) ∧ (g 3 v = 0 ∧ g 2 v ≤ 9000)) := by
  refine imx g (fun hp => ?_)
  have q := sd hp
  have o' := O hp
  have v' := V hp
  have L0 : LI s k g it 1 47 0 := LI.z (fun h => absurd h (by decide))
  obtain ⟨g', a1, a2, a3, a4⟩ := GI.head (ix := 0) (f := 1) (G hp) o' v' (by decide) hso q.1 q.2.1 (by have : ds 1 47 = (-100) := rfl; omega) L0 (by first | (intro h; exact absurd h (by decide)) | (intro _ h; exact absurd h (by decide)) | (intro _ _; omega)) (by first | (intro h; exact absurd h (by decide)) | (intro _ h; exact absurd h (by decide)) | (intro _ _; omega)) (by omega) (fun _ _ => rfl)
  refine ⟨g', ?_, a2, ?_, a4, ⟨o'.2.2.2.2.1, o'.2.2.2.1⟩, ⟨v'.2.2.2.1, by have := v'.2.2.2.2.2.2.1; have := v'.2.2.2.2.2.2.2.1; omega⟩⟩
  · unfold GS0; rw [tr_u hk (by decide)]; exact a1
  · unfold LI; rw [tr_u hk (by decide)]; exact a3
theorem EHo_1_34 {P : Prop} {s : rS} {k S : Nat} {g : Nat → Int → Int} {it d lo x y e v n0 l h d' : Int} (hk : rgk k) (G : Im P (GS0 s k g)) (O : Im P (OP s k g it 34 d lo x y e)) {la : Int} (L : Im P (LI s k g it 1 34 la)) (V : Im P (NR s k g S v n0 l h d')) (hso : ∀ q, so S q → so 7 q) (sd : Im P (x ≤ l ∧ y ≤ l ∧ d + 0 ≤ d' ∧ la = 0)) : ∃ g', Im P (GS0 (sT s k 1 it v) k g' ∧ OP (sT s k 1 it v) k g' it 34 d lo h h e ∧ LI (sT s k 1 it v) k g' it 1 34 v ∧ KS g g' it v 1 34 ∧ (g 2 it = 100000 ∧ g 3 it = 0) ∧ (g 3 v = 0 ∧ g 2 v ≤ 9000)) := by
  refine imx g (fun hp => ?_)
  have q := sd hp
  have o' := O hp
  have v' := V hp
  have L0 : LI s k g it 1 34 0 := by have := L hp; have e : la = 0 := q.2.2.2; subst e; exact this
  obtain ⟨g', a1, a2, a3, a4⟩ := GI.head (ix := 0) (f := 1) (G hp) o' v' (by decide) hso q.1 q.2.1 (by have : ds 1 34 = 0 := rfl; omega) L0 (by first | (intro h; exact absurd h (by decide)) | (intro _ h; exact absurd h (by decide)) | (intro _ _; omega)) (by first | (intro h; exact absurd h (by decide)) | (intro _ h; exact absurd h (by decide)) | (intro _ _; omega)) (by omega) (fun _ _ => rfl)
  refine ⟨g', ?_, a2, ?_, a4, ⟨o'.2.2.2.2.1, o'.2.2.2.1⟩, ⟨v'.2.2.2.1, by have := v'.2.2.2.2.2.2.1; have := v'.2.2.2.2.2.2.2.1; omega⟩⟩
  · unfold GS0; rw [tr_u hk (by decide)]; exact a1
  · unfold LI; rw [tr_u hk (by decide)]; exact a3
theorem EAo_1_34 {P : Prop} {s : rS} {k S : Nat} {g : Nat → Int → Int} {it d lo x y e v n0 l h d' la : Int} (hk : rgk k) (G : Im P (GS0 s k g)) (O : Im P (OP s k g it 34 d lo x y e)) (L : Im P (LI s k g it 1 34 la)) (V : Im P (NR s k g S v n0 l h d')) (hso : ∀ q, so S q → so 7 q) (sd : Im P (x < l ∧ y ≤ l ∧ d + 0 ≤ d' ∧ la ≠ 0 ∧ la < v)) : ∃ g', Im P (GS0 (sT s k 5 la v) k g' ∧ OP (sT s k 5 la v) k g' it 34 d lo h h e ∧ LI (sT s k 5 la v) k g' it 1 34 v ∧ KS g g' it v 1 34 ∧ (g 2 it = 100000 ∧ g 3 it = 0) ∧ (g 3 v = 0 ∧ g 2 v ≤ 9000) ∧ g 3 la = it ∧ g 8 la = 1) := by
  refine imx g (fun hp => ?_)
  have q := sd hp
  have o' := O hp
  have v' := V hp
  have L' := L hp
  have hla : la ≠ 0 := q.2.2.2.1
  obtain ⟨g', a1, a2, a3, a4⟩ := GI.app1 (f := 1) (G hp) o' v' L' hla (by decide) (by decide) hso q.1 (by omega) q.2.1 (by have : ds 1 34 = 0 := rfl; omega) (by first | (intro h; exact absurd h (by decide)) | (intro _ h; exact absurd h (by decide)) | (intro _ _; omega))
  have la3 : g 3 la = it := by rcases L' with z | z; exact absurd z.1 hla; exact z.2.2.1
  have la8 : g 8 la = 1 := by rcases L' with z | z; exact absurd z.1 hla; exact z.2.2.2.1
  refine ⟨g', ?_, a2, ?_, a4, ⟨o'.2.2.2.2.1, o'.2.2.2.1⟩, ⟨v'.2.2.2.1, by have := v'.2.2.2.2.2.2.1; have := v'.2.2.2.2.2.2.2.1; omega⟩, la3, la8⟩
  · unfold GS0; rw [tr_u hk (by decide)]; exact a1
  · unfold LI; rw [tr_u hk (by decide)]; exact a3
theorem EHo_1_33 {P : Prop} {s : rS} {k S : Nat} {g : Nat → Int → Int} {it d lo x y e v n0 l h d' : Int} (hk : rgk k) (G : Im P (GS0 s k g)) (O : Im P (OP s k g it 33 d lo x y e)) (V : Im P (NR s k g S v n0 l h d')) (hso : ∀ q, so S q → so 11 q) (sd : Im P (x ≤ l ∧ y ≤ l ∧ d + (-100) ≤ d')) : ∃ g', Im P (GS0 (sT s k 1 it v) k g' ∧ OP (sT s k 1 it v) k g' it 33 d lo h h e ∧ LI (sT s k 1 it v) k g' it 1 33 v ∧ KS g g' it v 1 33 ∧ (g 2 it = 100000 ∧ g 3 it = 0) ∧ (g 3 v = 0 ∧ g 2 v ≤ 9000)) := by
  refine imx g (fun hp => ?_)
  have q := sd hp
  have o' := O hp
  have v' := V hp
  have L0 : LI s k g it 1 33 0 := LI.z (fun h => absurd h (by decide))
  obtain ⟨g', a1, a2, a3, a4⟩ := GI.head (ix := 0) (f := 1) (G hp) o' v' (by decide) hso q.1 q.2.1 (by have : ds 1 33 = (-100) := rfl; omega) L0 (by first | (intro h; exact absurd h (by decide)) | (intro _ h; exact absurd h (by decide)) | (intro _ _; omega)) (by first | (intro h; exact absurd h (by decide)) | (intro _ h; exact absurd h (by decide)) | (intro _ _; omega)) (by omega) (fun _ _ => rfl)
  refine ⟨g', ?_, a2, ?_, a4, ⟨o'.2.2.2.2.1, o'.2.2.2.1⟩, ⟨v'.2.2.2.1, by have := v'.2.2.2.2.2.2.1; have := v'.2.2.2.2.2.2.2.1; omega⟩⟩
  · unfold GS0; rw [tr_u hk (by decide)]; exact a1
  · unfold LI; rw [tr_u hk (by decide)]; exact a3
theorem EHo_2_33 {P : Prop} {s : rS} {k S : Nat} {g : Nat → Int → Int} {it d lo x y e v n0 l h d' : Int} (hk : rgk k) (G : Im P (GS0 s k g)) (O : Im P (OP s k g it 33 d lo x y e)) {la : Int} (L : Im P (LI s k g it 2 33 la)) (V : Im P (NR s k g S v n0 l h d')) (hso : ∀ q, so S q → so 9 q) (sd : Im P (x ≤ l ∧ y ≤ l ∧ d + (-100) ≤ d' ∧ la = 0)) : ∃ g', Im P (GS0 (sT s k 2 it v) k g' ∧ OP (sT s k 2 it v) k g' it 33 d lo h h e ∧ LI (sT s k 2 it v) k g' it 2 33 v ∧ KS g g' it v 2 33 ∧ (g 2 it = 100000 ∧ g 3 it = 0) ∧ (g 3 v = 0 ∧ g 2 v ≤ 9000)) := by
  refine imx g (fun hp => ?_)
  have q := sd hp
  have o' := O hp
  have v' := V hp
  have L0 : LI s k g it 2 33 0 := by have := L hp; have e : la = 0 := q.2.2.2; subst e; exact this
  obtain ⟨g', a1, a2, a3, a4⟩ := GI.head (ix := 0) (f := 2) (G hp) o' v' (by decide) hso q.1 q.2.1 (by have : ds 2 33 = (-100) := rfl; omega) L0 (by first | (intro h; exact absurd h (by decide)) | (intro _ h; exact absurd h (by decide)) | (intro _ _; omega)) (by first | (intro h; exact absurd h (by decide)) | (intro _ h; exact absurd h (by decide)) | (intro _ _; omega)) (by omega) (fun _ _ => rfl)
  refine ⟨g', ?_, a2, ?_, a4, ⟨o'.2.2.2.2.1, o'.2.2.2.1⟩, ⟨v'.2.2.2.1, by have := v'.2.2.2.2.2.2.1; have := v'.2.2.2.2.2.2.2.1; omega⟩⟩
  · unfold GS0; rw [tr_u hk (by decide)]; exact a1
  · unfold LI; rw [tr_u hk (by decide)]; exact a3
theorem EAo_2_33 {P : Prop} {s : rS} {k S : Nat} {g : Nat → Int → Int} {it d lo x y e v n0 l h d' la : Int} (hk : rgk k) (G : Im P (GS0 s k g)) (O : Im P (OP s k g it 33 d lo x y e)) (L : Im P (LI s k g it 2 33 la)) (V : Im P (NR s k g S v n0 l h d')) (hso : ∀ q, so S q → so 9 q) (sd : Im P (x < l ∧ y ≤ l ∧ d + (-100) ≤ d' ∧ la ≠ 0 ∧ la < v)) : ∃ g', Im P (GS0 (sT s k 5 la v) k g' ∧ OP (sT s k 5 la v) k g' it 33 d lo h h e ∧ LI (sT s k 5 la v) k g' it 2 33 v ∧ KS g g' it v 2 33 ∧ (g 2 it = 100000 ∧ g 3 it = 0) ∧ (g 3 v = 0 ∧ g 2 v ≤ 9000) ∧ g 3 la = it ∧ g 8 la = 2) := by
  refine imx g (fun hp => ?_)
  have q := sd hp
  have o' := O hp
  have v' := V hp
  have L' := L hp
  have hla : la ≠ 0 := q.2.2.2.1
  obtain ⟨g', a1, a2, a3, a4⟩ := GI.app1 (f := 2) (G hp) o' v' L' hla (by decide) (by decide) hso q.1 (by omega) q.2.1 (by have : ds 2 33 = (-100) := rfl; omega) (by first | (intro h; exact absurd h (by decide)) | (intro _ h; exact absurd h (by decide)) | (intro _ _; omega))
  have la3 : g 3 la = it := by rcases L' with z | z; exact absurd z.1 hla; exact z.2.2.1
  have la8 : g 8 la = 2 := by rcases L' with z | z; exact absurd z.1 hla; exact z.2.2.2.1
  refine ⟨g', ?_, a2, ?_, a4, ⟨o'.2.2.2.2.1, o'.2.2.2.1⟩, ⟨v'.2.2.2.1, by have := v'.2.2.2.2.2.2.1; have := v'.2.2.2.2.2.2.2.1; omega⟩, la3, la8⟩
  · unfold GS0; rw [tr_u hk (by decide)]; exact a1
  · unfold LI; rw [tr_u hk (by decide)]; exact a3
theorem EHo_2_53 {P : Prop} {s : rS} {k S : Nat} {g : Nat → Int → Int} {it d lo x y e v n0 l h d' : Int} (hk : rgk k) (G : Im P (GS0 s k g)) (O : Im P (OP s k g it 53 d lo x y e)) (V : Im P (NR s k g S v n0 l h d')) (hso : ∀ q, so S q → so 1 q) (sd : Im P (x ≤ l ∧ y ≤ l ∧ d + 1 ≤ d')) : ∃ g', Im P (GS0 (sT s k 2 it v) k g' ∧ OP (sT s k 2 it v) k g' it 53 d lo h h e ∧ LI (sT s k 2 it v) k g' it 2 53 v ∧ KS g g' it v 2 53 ∧ (g 2 it = 100000 ∧ g 3 it = 0) ∧ (g 3 v = 0 ∧ g 2 v ≤ 9000)) := by
  refine imx g (fun hp => ?_)
  have q := sd hp
  have o' := O hp
  have v' := V hp
  have L0 : LI s k g it 2 53 0 := LI.z (fun h => absurd h (by decide))
  obtain ⟨g', a1, a2, a3, a4⟩ := GI.head (ix := 0) (f := 2) (G hp) o' v' (by decide) hso q.1 q.2.1 (by have : ds 2 53 = 1 := rfl; omega) L0 (by first | (intro h; exact absurd h (by decide)) | (intro _ h; exact absurd h (by decide)) | (intro _ _; omega)) (by first | (intro h; exact absurd h (by decide)) | (intro _ h; exact absurd h (by decide)) | (intro _ _; omega)) (by omega) (fun _ _ => rfl)
  refine ⟨g', ?_, a2, ?_, a4, ⟨o'.2.2.2.2.1, o'.2.2.2.1⟩, ⟨v'.2.2.2.1, by have := v'.2.2.2.2.2.2.1; have := v'.2.2.2.2.2.2.2.1; omega⟩⟩
  · unfold GS0; rw [tr_u hk (by decide)]; exact a1
  · unfold LI; rw [tr_u hk (by decide)]; exact a3
theorem EHo_1_4 {P : Prop} {s : rS} {k S : Nat} {g : Nat → Int → Int} {it d lo x y e v n0 l h d' : Int} (hk : rgk k) (G : Im P (GS0 s k g)) (O : Im P (OP s k g it 4 d lo x y e)) (V : Im P (NR s k g S v n0 l h d')) (hso : ∀ q, so S q → so 1 q) (sd : Im P (x ≤ l ∧ y ≤ l ∧ d + (-100) ≤ d' ∧ x < 0)) : ∃ g', Im P (GS0 (sT s k 1 it v) k g' ∧ OP (sT s k 1 it v) k g' it 4 d lo h h e ∧ LI (sT s k 1 it v) k g' it 1 4 v ∧ KS g g' it v 1 4 ∧ (g 2 it = 100000 ∧ g 3 it = 0) ∧ (g 3 v = 0 ∧ g 2 v ≤ 9000)) := by
  refine imx g (fun hp => ?_)
  have q := sd hp
  have o' := O hp
  have v' := V hp
  have L0 : LI s k g it 1 4 0 := LI.z (fun h => absurd h (by decide))
  obtain ⟨g', a1, a2, a3, a4⟩ := GI.head (ix := 0) (f := 1) (G hp) o' v' (by decide) hso q.1 q.2.1 (by have : ds 1 4 = (-100) := rfl; omega) L0 (by first | (intro h; exact absurd h (by decide)) | (intro _ h; exact absurd h (by decide)) | (intro _ _; omega)) (by first | (intro h; exact absurd h (by decide)) | (intro _ h; exact absurd h (by decide)) | (intro _ _; omega)) (by omega) (fun _ _ => rfl)
  refine ⟨g', ?_, a2, ?_, a4, ⟨o'.2.2.2.2.1, o'.2.2.2.1⟩, ⟨v'.2.2.2.1, by have := v'.2.2.2.2.2.2.1; have := v'.2.2.2.2.2.2.2.1; omega⟩⟩
  · unfold GS0; rw [tr_u hk (by decide)]; exact a1
  · unfold LI; rw [tr_u hk (by decide)]; exact a3
theorem EHo_2_4 {P : Prop} {s : rS} {k S : Nat} {g : Nat → Int → Int} {it d lo x y e v n0 l h d' : Int} (hk : rgk k) (G : Im P (GS0 s k g)) (O : Im P (OP s k g it 4 d lo x y e)) (V : Im P (NR s k g S v n0 l h d')) (hso : ∀ q, so S q → so 8 q) (sd : Im P (x ≤ l ∧ y ≤ l ∧ d + (-100) ≤ d')) : ∃ g', Im P (GS0 (sT s k 2 it v) k g' ∧ OP (sT s k 2 it v) k g' it 4 d lo h h e ∧ LI (sT s k 2 it v) k g' it 2 4 v ∧ KS g g' it v 2 4 ∧ (g 2 it = 100000 ∧ g 3 it = 0) ∧ (g 3 v = 0 ∧ g 2 v ≤ 9000)) := by
  refine imx g (fun hp => ?_)
  have q := sd hp
  have o' := O hp
  have v' := V hp
  have L0 : LI s k g it 2 4 0 := LI.z (fun h => absurd h (by decide))
  obtain ⟨g', a1, a2, a3, a4⟩ := GI.head (ix := 0) (f := 2) (G hp) o' v' (by decide) hso q.1 q.2.1 (by have : ds 2 4 = (-100) := rfl; omega) L0 (by first | (intro h; exact absurd h (by decide)) | (intro _ h; exact absurd h (by decide)) | (intro _ _; omega)) (by first | (intro h; exact absurd h (by decide)) | (intro _ h; exact absurd h (by decide)) | (intro _ _; omega)) (by omega) (fun _ _ => rfl)
  refine ⟨g', ?_, a2, ?_, a4, ⟨o'.2.2.2.2.1, o'.2.2.2.1⟩, ⟨v'.2.2.2.1, by have := v'.2.2.2.2.2.2.1; have := v'.2.2.2.2.2.2.2.1; omega⟩⟩
  · unfold GS0; rw [tr_u hk (by decide)]; exact a1
  · unfold LI; rw [tr_u hk (by decide)]; exact a3
theorem EAo_2_4 {P : Prop} {s : rS} {k S : Nat} {g : Nat → Int → Int} {it d lo x y e v n0 l h d' la : Int} (hk : rgk k) (G : Im P (GS0 s k g)) (O : Im P (OP s k g it 4 d lo x y e)) (L : Im P (LI s k g it 2 4 la)) (V : Im P (NR s k g S v n0 l h d')) (hso : ∀ q, so S q → so 8 q) (sd : Im P (x < l ∧ y ≤ l ∧ d + (-100) ≤ d' ∧ la ≠ 0 ∧ la < v)) : ∃ g', Im P (GS0 (sT s k 5 la v) k g' ∧ OP (sT s k 5 la v) k g' it 4 d lo h h e ∧ LI (sT s k 5 la v) k g' it 2 4 v ∧ KS g g' it v 2 4 ∧ (g 2 it = 100000 ∧ g 3 it = 0) ∧ (g 3 v = 0 ∧ g 2 v ≤ 9000) ∧ g 3 la = it ∧ g 8 la = 2) := by
  refine imx g (fun hp => ?_)
  have q := sd hp
  have o' := O hp
  have v' := V hp
  have L' := L hp
  have hla : la ≠ 0 := q.2.2.2.1
  obtain ⟨g', a1, a2, a3, a4⟩ := GI.app1 (f := 2) (G hp) o' v' L' hla (by decide) (by decide) hso q.1 (by omega) q.2.1 (by have : ds 2 4 = (-100) := rfl; omega) (by first | (intro h; exact absurd h (by decide)) | (intro _ h; exact absurd h (by decide)) | (intro _ _; omega))
  have la3 : g 3 la = it := by rcases L' with z | z; exact absurd z.1 hla; exact z.2.2.1
  have la8 : g 8 la = 2 := by rcases L' with z | z; exact absurd z.1 hla; exact z.2.2.2.1
  refine ⟨g', ?_, a2, ?_, a4, ⟨o'.2.2.2.2.1, o'.2.2.2.1⟩, ⟨v'.2.2.2.1, by have := v'.2.2.2.2.2.2.1; have := v'.2.2.2.2.2.2.2.1; omega⟩, la3, la8⟩
  · unfold GS0; rw [tr_u hk (by decide)]; exact a1
  · unfold LI; rw [tr_u hk (by decide)]; exact a3
theorem EHo_1_5 {P : Prop} {s : rS} {k S : Nat} {g : Nat → Int → Int} {it d lo x y e v n0 l h d' : Int} (ix : Int) (hk : rgk k) (G : Im P (GS0 s k g)) (O : Im P (OP s k g it 5 d lo x y e)) (V : Im P (NR s k g S v n0 l h d')) (hso : ∀ q, so S q → so 13 q) (sd : Im P (x ≤ l ∧ y ≤ l ∧ d + 1 ≤ d' ∧ 0 ≤ ix ∧ ix ≤ 9000)) : ∃ g', Im P (GS0 (sT s k 1 it v) k g' ∧ OP (sT s k 1 it v) k g' it 5 d lo h h e ∧ LI (sT s k 1 it v) k g' it 1 5 v ∧ KS g g' it v 1 5 ∧ (g 2 it = 100000 ∧ g 3 it = 0) ∧ (g 3 v = 0 ∧ g 2 v ≤ 9000) ∧ g' 5 v = ix) := by
  refine imx g (fun hp => ?_)
  have q := sd hp
  have o' := O hp
  have v' := V hp
  have L0 : LI s k g it 1 5 0 := LI.z (fun h => absurd h (by decide))
  obtain ⟨g', a1, a2, a3, a4, a5⟩ := GI.headx (ix := ix) (f := 1) (G hp) o' v' (by decide) hso q.1 q.2.1 (by have : ds 1 5 = 1 := rfl; omega) L0 (by first | (intro h; exact absurd h (by decide)) | (intro _ h; exact absurd h (by decide))) (by intro h; exact absurd h (by decide)) q.2.2.2 (fun h1 h2 => by first | exact absurd (show tb 1 5 = 12 from rfl) h1 | exact absurd (show tb 1 5 = 13 from rfl) h2)
  refine ⟨g', ?_, a2, ?_, a4, ⟨o'.2.2.2.2.1, o'.2.2.2.1⟩, ⟨v'.2.2.2.1, by have := v'.2.2.2.2.2.2.1; have := v'.2.2.2.2.2.2.2.1; omega⟩, a5⟩
  · unfold GS0; rw [tr_u hk (by decide)]; exact a1
  · unfold LI; rw [tr_u hk (by decide)]; exact a3
theorem EAo_1_5 {P : Prop} {s : rS} {k S : Nat} {g : Nat → Int → Int} {it d lo x y e v n0 l h d' la : Int} (ix : Int) (hk : rgk k) (G : Im P (GS0 s k g)) (O : Im P (OP s k g it 5 d lo x y e)) (L : Im P (LI s k g it 1 5 la)) (V : Im P (NR s k g S v n0 l h d')) (hso : ∀ q, so S q → so 13 q) (sd : Im P (x ≤ l ∧ y ≤ l ∧ d + 1 ≤ d' ∧ la ≠ 0 ∧ g 5 la < ix ∧ ix ≤ 9000)) : ∃ g', Im P (GS0 (sT s k 5 la v) k g' ∧ OP (sT s k 5 la v) k g' it 5 d lo h h e ∧ LI (sT s k 5 la v) k g' it 1 5 v ∧ KS g g' it v 1 5 ∧ (g 2 it = 100000 ∧ g 3 it = 0) ∧ (g 3 v = 0 ∧ g 2 v ≤ 9000) ∧ g' 5 v = ix ∧ g 3 la = it ∧ g 8 la = 1) := by
  refine imx g (fun hp => ?_)
  have q := sd hp
  have o' := O hp
  have v' := V hp
  have L' := L hp
  have hla : la ≠ 0 := q.2.2.2.1
  have la3 : g 3 la = it := by rcases L' with z | z; exact absurd z.1 hla; exact z.2.2.1
  have la8 : g 8 la = 1 := by rcases L' with z | z; exact absurd z.1 hla; exact z.2.2.2.1
  have laN : 0 < la ∧ la < rF s k 7 := by rcases L' with z | z; exact absurd z.1 hla; exact ⟨z.1, z.2.1⟩
  have i0 := gS.i0 (G hp la laN.1 laN.2).1
  obtain ⟨g', a1, a2, a3, a4, a5⟩ := GI.appx (ix := ix) (f := 1) (G hp) o' v' L' hla (by decide) hso q.1 q.2.1 (by have : ds 1 5 = 1 := rfl; omega) (by first | (intro h; exact absurd h (by decide)) | (intro _ h; exact absurd h (by decide))) ⟨by omega, q.2.2.2.2.2⟩ q.2.2.2.2.1 (fun h1 h2 => by first | exact absurd (show tb 1 5 = 12 from rfl) h1 | exact absurd (show tb 1 5 = 13 from rfl) h2)
  refine ⟨g', ?_, a2, ?_, a4, ⟨o'.2.2.2.2.1, o'.2.2.2.1⟩, ⟨v'.2.2.2.1, by have := v'.2.2.2.2.2.2.1; have := v'.2.2.2.2.2.2.2.1; omega⟩, a5, la3, la8⟩
  · unfold GS0; rw [tr_u hk (by decide)]; exact a1
  · unfold LI; rw [tr_u hk (by decide)]; exact a3
theorem EHo_1_8 {P : Prop} {s : rS} {k S : Nat} {g : Nat → Int → Int} {it d lo x y e v n0 l h d' : Int} (hk : rgk k) (G : Im P (GS0 s k g)) (O : Im P (OP s k g it 8 d lo x y e)) (V : Im P (NR s k g S v n0 l h d')) (hso : ∀ q, so S q → so 14 q) (sd : Im P (x ≤ l ∧ y ≤ l ∧ d + (-100) ≤ d' ∧ x < 0)) : ∃ g', Im P (GS0 (sT s k 1 it v) k g' ∧ OP (sT s k 1 it v) k g' it 8 d lo h h e ∧ LI (sT s k 1 it v) k g' it 1 8 v ∧ KS g g' it v 1 8 ∧ (g 2 it = 100000 ∧ g 3 it = 0) ∧ (g 3 v = 0 ∧ g 2 v ≤ 9000)) := by
  refine imx g (fun hp => ?_)
  have q := sd hp
  have o' := O hp
  have v' := V hp
  have L0 : LI s k g it 1 8 0 := LI.z (fun h => absurd h (by decide))
  obtain ⟨g', a1, a2, a3, a4⟩ := GI.head (ix := 0) (f := 1) (G hp) o' v' (by decide) hso q.1 q.2.1 (by have : ds 1 8 = (-100) := rfl; omega) L0 (by first | (intro h; exact absurd h (by decide)) | (intro _ h; exact absurd h (by decide)) | (intro _ _; omega)) (by first | (intro h; exact absurd h (by decide)) | (intro _ h; exact absurd h (by decide)) | (intro _ _; omega)) (by omega) (fun _ _ => rfl)
  refine ⟨g', ?_, a2, ?_, a4, ⟨o'.2.2.2.2.1, o'.2.2.2.1⟩, ⟨v'.2.2.2.1, by have := v'.2.2.2.2.2.2.1; have := v'.2.2.2.2.2.2.2.1; omega⟩⟩
  · unfold GS0; rw [tr_u hk (by decide)]; exact a1
  · unfold LI; rw [tr_u hk (by decide)]; exact a3
theorem EHo_2_8 {P : Prop} {s : rS} {k S : Nat} {g : Nat → Int → Int} {it d lo x y e v n0 l h d' : Int} (hk : rgk k) (G : Im P (GS0 s k g)) (O : Im P (OP s k g it 8 d lo x y e)) (V : Im P (NR s k g S v n0 l h d')) (hso : ∀ q, so S q → so 11 q) (sd : Im P (x ≤ l ∧ y ≤ l ∧ d + 0 ≤ d')) : ∃ g', Im P (GS0 (sT s k 2 it v) k g' ∧ OP (sT s k 2 it v) k g' it 8 d lo h h e ∧ LI (sT s k 2 it v) k g' it 2 8 v ∧ KS g g' it v 2 8 ∧ (g 2 it = 100000 ∧ g 3 it = 0) ∧ (g 3 v = 0 ∧ g 2 v ≤ 9000)) := by
  refine imx g (fun hp => ?_)
  have q := sd hp
  have o' := O hp
  have v' := V hp
  have L0 : LI s k g it 2 8 0 := LI.z (fun h => absurd h (by decide))
  obtain ⟨g', a1, a2, a3, a4⟩ := GI.head (ix := 0) (f := 2) (G hp) o' v' (by decide) hso q.1 q.2.1 (by have : ds 2 8 = 0 := rfl; omega) L0 (by first | (intro h; exact absurd h (by decide)) | (intro _ h; exact absurd h (by decide)) | (intro _ _; omega)) (by first | (intro h; exact absurd h (by decide)) | (intro _ h; exact absurd h (by decide)) | (intro _ _; omega)) (by omega) (fun _ _ => rfl)
  refine ⟨g', ?_, a2, ?_, a4, ⟨o'.2.2.2.2.1, o'.2.2.2.1⟩, ⟨v'.2.2.2.1, by have := v'.2.2.2.2.2.2.1; have := v'.2.2.2.2.2.2.2.1; omega⟩⟩
  · unfold GS0; rw [tr_u hk (by decide)]; exact a1
  · unfold LI; rw [tr_u hk (by decide)]; exact a3
theorem EHo_1_9 {P : Prop} {s : rS} {k S : Nat} {g : Nat → Int → Int} {it d lo x y e v n0 l h d' : Int} (ix : Int) (hk : rgk k) (G : Im P (GS0 s k g)) (O : Im P (OP s k g it 9 d lo x y e)) (V : Im P (NR s k g S v n0 l h d')) (hso : ∀ q, so S q → so 12 q) (sd : Im P (x ≤ l ∧ y ≤ l ∧ d + 0 ≤ d' ∧ 0 ≤ ix ∧ ix ≤ 9000)) : ∃ g', Im P (GS0 (sT s k 1 it v) k g' ∧ OP (sT s k 1 it v) k g' it 9 d lo h h e ∧ LI (sT s k 1 it v) k g' it 1 9 v ∧ KS g g' it v 1 9 ∧ (g 2 it = 100000 ∧ g 3 it = 0) ∧ (g 3 v = 0 ∧ g 2 v ≤ 9000) ∧ g' 5 v = ix) := by
  refine imx g (fun hp => ?_)
  have q := sd hp
  have o' := O hp
  have v' := V hp
  have L0 : LI s k g it 1 9 0 := LI.z (fun h => absurd h (by decide))
  obtain ⟨g', a1, a2, a3, a4, a5⟩ := GI.headx (ix := ix) (f := 1) (G hp) o' v' (by decide) hso q.1 q.2.1 (by have : ds 1 9 = 0 := rfl; omega) L0 (by first | (intro h; exact absurd h (by decide)) | (intro _ h; exact absurd h (by decide))) (by intro h; exact absurd h (by decide)) q.2.2.2 (fun h1 h2 => by first | exact absurd (show tb 1 9 = 12 from rfl) h1 | exact absurd (show tb 1 9 = 13 from rfl) h2)
  refine ⟨g', ?_, a2, ?_, a4, ⟨o'.2.2.2.2.1, o'.2.2.2.1⟩, ⟨v'.2.2.2.1, by have := v'.2.2.2.2.2.2.1; have := v'.2.2.2.2.2.2.2.1; omega⟩, a5⟩
  · unfold GS0; rw [tr_u hk (by decide)]; exact a1
  · unfold LI; rw [tr_u hk (by decide)]; exact a3
theorem EAo_1_9 {P : Prop} {s : rS} {k S : Nat} {g : Nat → Int → Int} {it d lo x y e v n0 l h d' la : Int} (ix : Int) (hk : rgk k) (G : Im P (GS0 s k g)) (O : Im P (OP s k g it 9 d lo x y e)) (L : Im P (LI s k g it 1 9 la)) (V : Im P (NR s k g S v n0 l h d')) (hso : ∀ q, so S q → so 12 q) (sd : Im P (x ≤ l ∧ y ≤ l ∧ d + 0 ≤ d' ∧ la ≠ 0 ∧ g 5 la < ix ∧ ix ≤ 9000)) : ∃ g', Im P (GS0 (sT s k 5 la v) k g' ∧ OP (sT s k 5 la v) k g' it 9 d lo h h e ∧ LI (sT s k 5 la v) k g' it 1 9 v ∧ KS g g' it v 1 9 ∧ (g 2 it = 100000 ∧ g 3 it = 0) ∧ (g 3 v = 0 ∧ g 2 v ≤ 9000) ∧ g' 5 v = ix ∧ g 3 la = it ∧ g 8 la = 1) := by
  refine imx g (fun hp => ?_)
  have q := sd hp
  have o' := O hp
  have v' := V hp
  have L' := L hp
  have hla : la ≠ 0 := q.2.2.2.1
  have la3 : g 3 la = it := by rcases L' with z | z; exact absurd z.1 hla; exact z.2.2.1
  have la8 : g 8 la = 1 := by rcases L' with z | z; exact absurd z.1 hla; exact z.2.2.2.1
  have laN : 0 < la ∧ la < rF s k 7 := by rcases L' with z | z; exact absurd z.1 hla; exact ⟨z.1, z.2.1⟩
  have i0 := gS.i0 (G hp la laN.1 laN.2).1
  obtain ⟨g', a1, a2, a3, a4, a5⟩ := GI.appx (ix := ix) (f := 1) (G hp) o' v' L' hla (by decide) hso q.1 q.2.1 (by have : ds 1 9 = 0 := rfl; omega) (by first | (intro h; exact absurd h (by decide)) | (intro _ h; exact absurd h (by decide))) ⟨by omega, q.2.2.2.2.2⟩ q.2.2.2.2.1 (fun h1 h2 => by first | exact absurd (show tb 1 9 = 12 from rfl) h1 | exact absurd (show tb 1 9 = 13 from rfl) h2)
  refine ⟨g', ?_, a2, ?_, a4, ⟨o'.2.2.2.2.1, o'.2.2.2.1⟩, ⟨v'.2.2.2.1, by have := v'.2.2.2.2.2.2.1; have := v'.2.2.2.2.2.2.2.1; omega⟩, a5, la3, la8⟩
  · unfold GS0; rw [tr_u hk (by decide)]; exact a1
  · unfold LI; rw [tr_u hk (by decide)]; exact a3
theorem EHo_2_6 {P : Prop} {s : rS} {k S : Nat} {g : Nat → Int → Int} {it d lo x y e v n0 l h d' : Int} (hk : rgk k) (G : Im P (GS0 s k g)) (O : Im P (OP s k g it 6 d lo x y e)) (V : Im P (NR s k g S v n0 l h d')) (hso : ∀ q, so S q → so 11 q) (sd : Im P (x ≤ l ∧ y ≤ l ∧ d + (-100) ≤ d')) : ∃ g', Im P (GS0 (sT s k 2 it v) k g' ∧ OP (sT s k 2 it v) k g' it 6 d lo h h e ∧ LI (sT s k 2 it v) k g' it 2 6 v ∧ KS g g' it v 2 6 ∧ (g 2 it = 100000 ∧ g 3 it = 0) ∧ (g 3 v = 0 ∧ g 2 v ≤ 9000)) := by
  refine imx g (fun hp => ?_)
  have q := sd hp
  have o' := O hp
  have v' := V hp
  have L0 : LI s k g it 2 6 0 := LI.z (fun h => absurd h (by decide))
  obtain ⟨g', a1, a2, a3, a4⟩ := GI.head (ix := 0) (f := 2) (G hp) o' v' (by decide) hso q.1 q.2.1 (by have : ds 2 6 = (-100) := rfl; omega) L0 (by first | (intro h; exact absurd h (by decide)) | (intro _ h; exact absurd h (by decide)) | (intro _ _; omega)) (by first | (intro h; exact absurd h (by decide)) | (intro _ h; exact absurd h (by decide)) | (intro _ _; omega)) (by omega) (fun _ _ => rfl)
  refine ⟨g', ?_, a2, ?_, a4, ⟨o'.2.2.2.2.1, o'.2.2.2.1⟩, ⟨v'.2.2.2.1, by have := v'.2.2.2.2.2.2.1; have := v'.2.2.2.2.2.2.2.1; omega⟩⟩
  · unfold GS0; rw [tr_u hk (by decide)]; exact a1
  · unfold LI; rw [tr_u hk (by decide)]; exact a3
theorem EHo_1_55 {P : Prop} {s : rS} {k S : Nat} {g : Nat → Int → Int} {it d lo x y e v n0 l h d' : Int} (hk : rgk k) (G : Im P (GS0 s k g)) (O : Im P (OP s k g it 55 d lo x y e)) (V : Im P (NR s k g S v n0 l h d')) (hso : ∀ q, so S q → so 15 q) (sd : Im P (x ≤ l ∧ y ≤ l ∧ d + 0 ≤ d')) : ∃ g', Im P (GS0 (sT s k 1 it v) k g' ∧ OP (sT s k 1 it v) k g' it 55 d lo h h e ∧ LI (sT s k 1 it v) k g' it 1 55 v ∧ KS g g' it v 1 55 ∧ (g 2 it = 100000 ∧ g 3 it = 0) ∧ (g 3 v = 0 ∧ g 2 v ≤ 9000)) := by
  refine imx g (fun hp => ?_)
  have q := sd hp
  have o' := O hp
  have v' := V hp
  have L0 : LI s k g it 1 55 0 := LI.z (fun h => absurd h (by decide))
  obtain ⟨g', a1, a2, a3, a4⟩ := GI.head (ix := 0) (f := 1) (G hp) o' v' (by decide) hso q.1 q.2.1 (by have : ds 1 55 = 0 := rfl; omega) L0 (by first | (intro h; exact absurd h (by decide)) | (intro _ h; exact absurd h (by decide)) | (intro _ _; omega)) (by first | (intro h; exact absurd h (by decide)) | (intro _ h; exact absurd h (by decide)) | (intro _ _; omega)) (by omega) (fun _ _ => rfl)
  refine ⟨g', ?_, a2, ?_, a4, ⟨o'.2.2.2.2.1, o'.2.2.2.1⟩, ⟨v'.2.2.2.1, by have := v'.2.2.2.2.2.2.1; have := v'.2.2.2.2.2.2.2.1; omega⟩⟩
  · unfold GS0; rw [tr_u hk (by decide)]; exact a1
  · unfold LI; rw [tr_u hk (by decide)]; exact a3
theorem EAo_1_55 {P : Prop} {s : rS} {k S : Nat} {g : Nat → Int → Int} {it d lo x y e v n0 l h d' la : Int} (hk : rgk k) (G : Im P (GS0 s k g)) (O : Im P (OP s k g it 55 d lo x y e)) (L : Im P (LI s k g it 1 55 la)) (V : Im P (NR s k g S v n0 l h d')) (hso : ∀ q, so S q → so 15 q) (sd : Im P (x < l ∧ y ≤ l ∧ d + 0 ≤ d' ∧ la ≠ 0 ∧ la < v)) : ∃ g', Im P (GS0 (sT s k 5 la v) k g' ∧ OP (sT s k 5 la v) k g' it 55 d lo h h e ∧ LI (sT s k 5 la v) k g' it 1 55 v ∧ KS g g' it v 1 55 ∧ (g 2 it = 100000 ∧ g 3 it = 0) ∧ (g 3 v = 0 ∧ g 2 v ≤ 9000) ∧ g 3 la = it ∧ g 8 la = 1) := by
  refine imx g (fun hp => ?_)
  have q := sd hp
  have o' := O hp
  have v' := V hp
  have L' := L hp
  have hla : la ≠ 0 := q.2.2.2.1
  obtain ⟨g', a1, a2, a3, a4⟩ := GI.app1 (f := 1) (G hp) o' v' L' hla (by decide) (by decide) hso q.1 (by omega) q.2.1 (by have : ds 1 55 = 0 := rfl; omega) (by first | (intro h; exact absurd h (by decide)) | (intro _ h; exact absurd h (by decide)) | (intro _ _; omega))
  have la3 : g 3 la = it := by rcases L' with z | z; exact absurd z.1 hla; exact z.2.2.1
  have la8 : g 8 la = 1 := by rcases L' with z | z; exact absurd z.1 hla; exact z.2.2.2.1
  refine ⟨g', ?_, a2, ?_, a4, ⟨o'.2.2.2.2.1, o'.2.2.2.1⟩, ⟨v'.2.2.2.1, by have := v'.2.2.2.2.2.2.1; have := v'.2.2.2.2.2.2.2.1; omega⟩, la3, la8⟩
  · unfold GS0; rw [tr_u hk (by decide)]; exact a1
  · unfold LI; rw [tr_u hk (by decide)]; exact a3
theorem EHo_1_56 {P : Prop} {s : rS} {k S : Nat} {g : Nat → Int → Int} {it d lo x y e v n0 l h d' : Int} (hk : rgk k) (G : Im P (GS0 s k g)) (O : Im P (OP s k g it 56 d lo x y e)) (V : Im P (NR s k g S v n0 l h d')) (hso : ∀ q, so S q → so 16 q) (sd : Im P (x ≤ l ∧ y ≤ l ∧ d + 0 ≤ d')) : ∃ g', Im P (GS0 (sT s k 1 it v) k g' ∧ OP (sT s k 1 it v) k g' it 56 d lo h h e ∧ LI (sT s k 1 it v) k g' it 1 56 v ∧ KS g g' it v 1 56 ∧ (g 2 it = 100000 ∧ g 3 it = 0) ∧ (g 3 v = 0 ∧ g 2 v ≤ 9000)) := by
  refine imx g (fun hp => ?_)
  have q := sd hp
  have o' := O hp
  have v' := V hp
  have L0 : LI s k g it 1 56 0 := LI.z (fun h => absurd h (by decide))
  obtain ⟨g', a1, a2, a3, a4⟩ := GI.head (ix := 0) (f := 1) (G hp) o' v' (by decide) hso q.1 q.2.1 (by have : ds 1 56 = 0 := rfl; omega) L0 (by first | (intro h; exact absurd h (by decide)) | (intro _ h; exact absurd h (by decide)) | (intro _ _; omega)) (by first | (intro h; exact absurd h (by decide)) | (intro _ h; exact absurd h (by decide)) | (intro _ _; omega)) (by omega) (fun _ _ => rfl)
  refine ⟨g', ?_, a2, ?_, a4, ⟨o'.2.2.2.2.1, o'.2.2.2.1⟩, ⟨v'.2.2.2.1, by have := v'.2.2.2.2.2.2.1; have := v'.2.2.2.2.2.2.2.1; omega⟩⟩
  · unfold GS0; rw [tr_u hk (by decide)]; exact a1
  · unfold LI; rw [tr_u hk (by decide)]; exact a3
theorem EAo_1_56 {P : Prop} {s : rS} {k S : Nat} {g : Nat → Int → Int} {it d lo x y e v n0 l h d' la : Int} (hk : rgk k) (G : Im P (GS0 s k g)) (O : Im P (OP s k g it 56 d lo x y e)) (L : Im P (LI s k g it 1 56 la)) (V : Im P (NR s k g S v n0 l h d')) (hso : ∀ q, so S q → so 16 q) (sd : Im P (x < l ∧ y ≤ l ∧ d + 0 ≤ d' ∧ la ≠ 0 ∧ la < v)) : ∃ g', Im P (GS0 (sT s k 5 la v) k g' ∧ OP (sT s k 5 la v) k g' it 56 d lo h h e ∧ LI (sT s k 5 la v) k g' it 1 56 v ∧ KS g g' it v 1 56 ∧ (g 2 it = 100000 ∧ g 3 it = 0) ∧ (g 3 v = 0 ∧ g 2 v ≤ 9000) ∧ g 3 la = it ∧ g 8 la = 1) := by
  refine imx g (fun hp => ?_)
  have q := sd hp
  have o' := O hp
  have v' := V hp
  have L' := L hp
  have hla : la ≠ 0 := q.2.2.2.1
  obtain ⟨g', a1, a2, a3, a4⟩ := GI.app1 (f := 1) (G hp) o' v' L' hla (by decide) (by decide) hso q.1 (by omega) q.2.1 (by have : ds 1 56 = 0 := rfl; omega) (by first | (intro h; exact absurd h (by decide)) | (intro _ h; exact absurd h (by decide)) | (intro _ _; omega))
  have la3 : g 3 la = it := by rcases L' with z | z; exact absurd z.1 hla; exact z.2.2.1
  have la8 : g 8 la = 1 := by rcases L' with z | z; exact absurd z.1 hla; exact z.2.2.2.1
  refine ⟨g', ?_, a2, ?_, a4, ⟨o'.2.2.2.2.1, o'.2.2.2.1⟩, ⟨v'.2.2.2.1, by have := v'.2.2.2.2.2.2.1; have := v'.2.2.2.2.2.2.2.1; omega⟩, la3, la8⟩
  · unfold GS0; rw [tr_u hk (by decide)]; exact a1
  · unfold LI; rw [tr_u hk (by decide)]; exact a3
theorem EHo_1_57 {P : Prop} {s : rS} {k S : Nat} {g : Nat → Int → Int} {it d lo x y e v n0 l h d' : Int} (hk : rgk k) (G : Im P (GS0 s k g)) (O : Im P (OP s k g it 57 d lo x y e)) (V : Im P (NR s k g S v n0 l h d')) (hso : ∀ q, so S q → so 16 q) (sd : Im P (x ≤ l ∧ y ≤ l ∧ d + 1 ≤ d')) : ∃ g', Im P (GS0 (sT s k 1 it v) k g' ∧ OP (sT s k 1 it v) k g' it 57 d lo h h e ∧ LI (sT s k 1 it v) k g' it 1 57 v ∧ KS g g' it v 1 57 ∧ (g 2 it = 100000 ∧ g 3 it = 0) ∧ (g 3 v = 0 ∧ g 2 v ≤ 9000)) := by
  refine imx g (fun hp => ?_)
  have q := sd hp
  have o' := O hp
  have v' := V hp
  have L0 : LI s k g it 1 57 0 := LI.z (fun h => absurd h (by decide))
  obtain ⟨g', a1, a2, a3, a4⟩ := GI.head (ix := 0) (f := 1) (G hp) o' v' (by decide) hso q.1 q.2.1 (by have : ds 1 57 = 1 := rfl; omega) L0 (by first | (intro h; exact absurd h (by decide)) | (intro _ h; exact absurd h (by decide)) | (intro _ _; omega)) (by first | (intro h; exact absurd h (by decide)) | (intro _ h; exact absurd h (by decide)) | (intro _ _; omega)) (by omega) (fun _ _ => rfl)
  refine ⟨g', ?_, a2, ?_, a4, ⟨o'.2.2.2.2.1, o'.2.2.2.1⟩, ⟨v'.2.2.2.1, by have := v'.2.2.2.2.2.2.1; have := v'.2.2.2.2.2.2.2.1; omega⟩⟩
  · unfold GS0; rw [tr_u hk (by decide)]; exact a1
  · unfold LI; rw [tr_u hk (by decide)]; exact a3
theorem EHo_1_59 {P : Prop} {s : rS} {k S : Nat} {g : Nat → Int → Int} {it d lo x y e v n0 l h d' : Int} (hk : rgk k) (G : Im P (GS0 s k g)) (O : Im P (OP s k g it 59 d lo x y e)) (V : Im P (NR s k g S v n0 l h d')) (hso : ∀ q, so S q → so 14 q) (sd : Im P (x ≤ l ∧ y ≤ l ∧ d + 1 ≤ d')) : ∃ g', Im P (GS0 (sT s k 1 it v) k g' ∧ OP (sT s k 1 it v) k g' it 59 d lo h h e ∧ LI (sT s k 1 it v) k g' it 1 59 v ∧ KS g g' it v 1 59 ∧ (g 2 it = 100000 ∧ g 3 it = 0) ∧ (g 3 v = 0 ∧ g 2 v ≤ 9000)) := by
  refine imx g (fun hp => ?_)
  have q := sd hp
  have o' := O hp
  have v' := V hp
  have L0 : LI s k g it 1 59 0 := LI.z (fun h => absurd h (by decide))
  obtain ⟨g', a1, a2, a3, a4⟩ := GI.head (ix := 0) (f := 1) (G hp) o' v' (by decide) hso q.1 q.2.1 (by have : ds 1 59 = 1 := rfl; omega) L0 (by first | (intro h; exact absurd h (by decide)) | (intro _ h; exact absurd h (by decide)) | (intro _ _; omega)) (by first | (intro h; exact absurd h (by decide)) | (intro _ h; exact absurd h (by decide)) | (intro _ _; omega)) (by omega) (fun _ _ => rfl)
  refine ⟨g', ?_, a2, ?_, a4, ⟨o'.2.2.2.2.1, o'.2.2.2.1⟩, ⟨v'.2.2.2.1, by have := v'.2.2.2.2.2.2.1; have := v'.2.2.2.2.2.2.2.1; omega⟩⟩
  · unfold GS0; rw [tr_u hk (by decide)]; exact a1
  · unfold LI; rw [tr_u hk (by decide)]; exact a3
theorem so_2_17 : ∀ q, so 2 q → so 17 q := by intro q h; rw [so_2] at h; rw [so_17]; omega
theorem so_21_17 : ∀ q, so 21 q → so 17 q := by intro q h; rw [so_21] at h; rw [so_17]; omega
theorem so_15_14 : ∀ q, so 15 q → so 14 q := by intro q h; rw [so_15] at h; rw [so_14]; omega
theorem so_16_15 : ∀ q, so 16 q → so 15 q := by intro q h; rw [so_16] at h; rw [so_15]; omega
theorem so_16_14 : ∀ q, so 16 q → so 14 q := by intro q h; rw [so_16] at h; rw [so_14]; omega
theorem so_10_2 : ∀ q, so 10 q → so 2 q := by intro q h; rw [so_10] at h; rw [so_2]; omega
theorem so_10_19 : ∀ q, so 10 q → so 19 q := by intro q h; rw [so_10] at h; rw [so_19]; omega
theorem so_5_5 : ∀ q, so 5 q → so 5 q := by intro q h; rw [so_5] at h; rw [so_5]; omega
theorem ENo_TF {P : Prop} {s t : rS} {k : Nat} {g : Nat → Int → Int} {r x1 x2 x3 : Int} (b d : Int) (hk : rgk k) (G : Im P (GS0 s k g)) (R : Im P (RG s t k 0)) (hr : r = rF s k 7) (hN : rF t k 7 = rF s k 7 + 1) (h0 : tr t k 0 r = x1) (h1 : tr t k 1 r = x2) (h2 : tr t k 2 r = x3) (h5 : tr t k 5 r = 0) (hx : x1 = 31 ∨ x1 = 32) (sd : Im P (0 < rF s k 7 ∧ (0 ≤ b ∧ b ≤ 9000) ∧ (-1 ≤ d ∧ d ≤ 21) ∧ rF s k 12 ≤ rF t k 12 ∧ True ∧ True)) : ∃ g', Im P (GS0 t k g' ∧ GK g g' (rF s k 7) (rF t k 7) 0 ∧ NR t k g' 2 r r b b d) := by
  rcases hx with rfl | rfl
  · obtain ⟨g1, X1⟩ := ENo_31 b d hk G R hr hN h0 h1 h2 h5 sd
    obtain ⟨g2, X2⟩ := ECo_31 b (fun hp => (X1 hp).1) (fun hp => (X1 hp).2.2.1) (fun hp => by have := sd hp; omega)
    exact ⟨g2, fun hp => ⟨(X2 hp).1, GK.kc (X1 hp).2.1 (X2 hp).2.2 (by omega), (X2 hp).2.1⟩⟩
  · obtain ⟨g1, X1⟩ := ENo_32 b d hk G R hr hN h0 h1 h2 h5 sd
    obtain ⟨g2, X2⟩ := ECo_32 b (fun hp => (X1 hp).1) (fun hp => (X1 hp).2.2.1) (fun hp => by have := sd hp; omega)
    exact ⟨g2, fun hp => ⟨(X2 hp).1, GK.kc (X1 hp).2.1 (X2 hp).2.2 (by omega), (X2 hp).2.1⟩⟩
def ok1 : Prop := True
theorem ok1.i : ok1 := trivial
theorem Im.and {P A B : Prop} (a : Im P A) (b : Im P B) : Im P (A ∧ B) := fun h => ⟨a h, b h⟩
theorem LI.gk0 {s t : rS} {k f K : Nat} {g g' : Nat → Int → Int} {it l c' d lo x y e : Int} {K2 : Nat} (hk : rgk k) (L : LI s k g it f K l) (O : OP s k g it K2 d lo x y e) (R : RG s t k c') (h : GK g g' (rF s k 7) (rF t k 7) 0) : LI t k g' it f K l := LIt.gk L h (fun m _ hm => RG.f hk R (by decide) hm (by omega)) (by have := O.1; omega) ⟨O.1, O.2.1⟩
theorem LI.ksA {s : rS} {k f K f2 K2 : Nat} {g g' : Nat → Int → Int} {it l i2 v fi z d lo x y e : Int} (hk : rgk k) (L : LI s k g it f K l) (O : OP s k g it K d lo x y e) (h : KS g g' i2 v f2 K2) (h2 : it ≠ i2) (h3i : g 3 i2 = 0) (h3v : g 3 v = 0 ∧ g 2 v ≤ 9000) (hfi : g 3 fi = i2) (hf0 : fi ≠ 0) : LI (sT s k 5 fi z) k g' it f K l := LI.ks hk (by decide) L O h h2 h3i h3v (fun _ => ⟨fun E => by
    rcases L with q | q
    · exact hf0 (E.trans q.1)
    · subst E; exact h2 (q.2.2.1.symm.trans hfi), fun E => h2 (E.symm.trans hfi)⟩)

theorem EHo_2_c {P : Prop} {s : rS} {k S K : Nat} {g : Nat → Int → Int} {it d lo x y e v n0 l h d' : Int} (hK : K = 36 ∨ K = 37 ∨ K = 45 ∨ K = 46) (hk : rgk k) (G : Im P (GS0 s k g)) (O : Im P (OP s k g it K d lo x y e)) {la : Int} (L : Im P (LI s k g it 2 K la)) (V : Im P (NR s k g S v n0 l h d')) (hso : ∀ q, so S q → so 6 q) (sd : Im P (x ≤ l ∧ y ≤ l ∧ d + 0 ≤ d' ∧ la = 0)) : ∃ g', Im P (GS0 (sT s k 2 it v) k g' ∧ OP (sT s k 2 it v) k g' it K d lo h h e ∧ LI (sT s k 2 it v) k g' it 2 K v ∧ KS g g' it v 2 K ∧ (g 2 it = 100000 ∧ g 3 it = 0) ∧ (g 3 v = 0 ∧ g 2 v ≤ 9000)) := by
  rcases hK with rfl | rfl | rfl | rfl
  · exact EHo_2_36 hk G O L V hso sd
  · exact EHo_2_37 hk G O L V hso sd
  · exact EHo_2_45 hk G O L V hso sd
  · exact EHo_2_46 hk G O L V hso sd
theorem EAo_2_c {P : Prop} {s : rS} {k S K : Nat} {g : Nat → Int → Int} {it d lo x y e v n0 l h d' : Int} (hK : K = 36 ∨ K = 37 ∨ K = 45 ∨ K = 46) (hk : rgk k) (G : Im P (GS0 s k g)) (O : Im P (OP s k g it K d lo x y e)) {la : Int} (L : Im P (LI s k g it 2 K la)) (V : Im P (NR s k g S v n0 l h d')) (hso : ∀ q, so S q → so 6 q) (sd : Im P (x < l ∧ y ≤ l ∧ d + 0 ≤ d' ∧ la ≠ 0 ∧ la < v)) : ∃ g', Im P (GS0 (sT s k 5 la v) k g' ∧ OP (sT s k 5 la v) k g' it K d lo h h e ∧ LI (sT s k 5 la v) k g' it 2 K v ∧ KS g g' it v 2 K ∧ (g 2 it = 100000 ∧ g 3 it = 0) ∧ (g 3 v = 0 ∧ g 2 v ≤ 9000) ∧ g 3 la = it ∧ g 8 la = 2) := by
  rcases hK with rfl | rfl | rfl | rfl
  · exact EAo_2_36 hk G O L V hso sd
  · exact EAo_2_37 hk G O L V hso sd
  · exact EAo_2_45 hk G O L V hso sd
  · exact EAo_2_46 hk G O L V hso sd
theorem GS0_F0 {σ : rS} {k : Nat} {x : Int} : GS0 (sF σ 0 0 x) k = GS0 σ k := by funext g; unfold GS0; rw [F_sF_ne (show (7 : Nat) ≠ 0 by decide), F_sF_ne (show (12 : Nat) ≠ 0 by decide), tr_sF]
theorem OP_F0 {σ : rS} {k : Nat} {x : Int} : OP (sF σ 0 0 x) k = OP σ k := by funext g; unfold OP; rw [F_sF_ne (show (7 : Nat) ≠ 0 by decide)]
theorem NR_F0 {σ : rS} {k : Nat} {x : Int} : NR (sF σ 0 0 x) k = NR σ k := by funext g; unfold NR; rw [F_sF_ne (show (7 : Nat) ≠ 0 by decide)]
theorem LI_F0 {σ : rS} {k : Nat} {x : Int} : LI (sF σ 0 0 x) k = LI σ k := by funext g; unfold LI; rw [F_sF_ne (show (7 : Nat) ≠ 0 by decide)]; rfl
theorem GS0_a1 {σ : rS} {k : Nat} {i x : Int} : GS0 (sA σ 1001 i x) k = GS0 σ k := by funext g; unfold GS0; rw [tr_a1]; rfl
theorem OP_a1 {σ : rS} {k : Nat} {i x : Int} : OP (sA σ 1001 i x) k = OP σ k := by funext g; unfold OP; rfl
theorem NR_a1 {σ : rS} {k : Nat} {i x : Int} : NR (sA σ 1001 i x) k = NR σ k := by funext g; unfold NR; rfl
theorem LI_a1 {σ : rS} {k : Nat} {i x : Int} : LI (sA σ 1001 i x) k = LI σ k := by funext g; unfold LI; rw [tr_a1]; rfl
theorem GS0_a2 {σ : rS} {k : Nat} {i x : Int} : GS0 (sA σ 1002 i x) k = GS0 σ k := by funext g; unfold GS0; rw [tr_a2]; rfl
theorem OP_a2 {σ : rS} {k : Nat} {i x : Int} : OP (sA σ 1002 i x) k = OP σ k := by funext g; unfold OP; rfl
theorem NR_a2 {σ : rS} {k : Nat} {i x : Int} : NR (sA σ 1002 i x) k = NR σ k := by funext g; unfold NR; rfl
theorem LI_a2 {σ : rS} {k : Nat} {i x : Int} : LI (sA σ 1002 i x) k = LI σ k := by funext g; unfold LI; rw [tr_a2]; rfl
theorem GS0_F3 {σ : rS} {k : Nat} {x : Int} : GS0 (sF σ 0 3 x) k = GS0 σ k := by funext g; unfold GS0; rw [F_sF_ne (show (7 : Nat) ≠ 3 by decide), F_sF_ne (show (12 : Nat) ≠ 3 by decide), tr_sF]
theorem OP_F3 {σ : rS} {k : Nat} {x : Int} : OP (sF σ 0 3 x) k = OP σ k := by funext g; unfold OP; rw [F_sF_ne (show (7 : Nat) ≠ 3 by decide)]
theorem NR_F3 {σ : rS} {k : Nat} {x : Int} : NR (sF σ 0 3 x) k = NR σ k := by funext g; unfold NR; rw [F_sF_ne (show (7 : Nat) ≠ 3 by decide)]
theorem LI_F3 {σ : rS} {k : Nat} {x : Int} : LI (sF σ 0 3 x) k = LI σ k := by funext g; unfold LI; rw [F_sF_ne (show (7 : Nat) ≠ 3 by decide)]; rfl
theorem GS0_a5 {σ : rS} {k : Nat} {i x : Int} : GS0 (sA σ 1005 i x) k = GS0 σ k := by funext g; unfold GS0; rw [tr_a5]; rfl
theorem OP_a5 {σ : rS} {k : Nat} {i x : Int} : OP (sA σ 1005 i x) k = OP σ k := by funext g; unfold OP; rfl
theorem NR_a5 {σ : rS} {k : Nat} {i x : Int} : NR (sA σ 1005 i x) k = NR σ k := by funext g; unfold NR; rfl
theorem LI_a5 {σ : rS} {k : Nat} {i x : Int} : LI (sA σ 1005 i x) k = LI σ k := by funext g; unfold LI; rw [tr_a5]; rfl
theorem GS0_F10 {σ : rS} {k : Nat} {x : Int} : GS0 (sF σ 0 10 x) k = GS0 σ k := by funext g; unfold GS0; rw [F_sF_ne (show (7 : Nat) ≠ 10 by decide), F_sF_ne (show (12 : Nat) ≠ 10 by decide), tr_sF]
theorem OP_F10 {σ : rS} {k : Nat} {x : Int} : OP (sF σ 0 10 x) k = OP σ k := by funext g; unfold OP; rw [F_sF_ne (show (7 : Nat) ≠ 10 by decide)]
theorem NR_F10 {σ : rS} {k : Nat} {x : Int} : NR (sF σ 0 10 x) k = NR σ k := by funext g; unfold NR; rw [F_sF_ne (show (7 : Nat) ≠ 10 by decide)]
theorem LI_F10 {σ : rS} {k : Nat} {x : Int} : LI (sF σ 0 10 x) k = LI σ k := by funext g; unfold LI; rw [F_sF_ne (show (7 : Nat) ≠ 10 by decide)]; rfl
theorem GS0_F11 {σ : rS} {k : Nat} {x : Int} : GS0 (sF σ 0 11 x) k = GS0 σ k := by funext g; unfold GS0; rw [F_sF_ne (show (7 : Nat) ≠ 11 by decide), F_sF_ne (show (12 : Nat) ≠ 11 by decide), tr_sF]
theorem OP_F11 {σ : rS} {k : Nat} {x : Int} : OP (sF σ 0 11 x) k = OP σ k := by funext g; unfold OP; rw [F_sF_ne (show (7 : Nat) ≠ 11 by decide)]
theorem NR_F11 {σ : rS} {k : Nat} {x : Int} : NR (sF σ 0 11 x) k = NR σ k := by funext g; unfold NR; rw [F_sF_ne (show (7 : Nat) ≠ 11 by decide)]
theorem LI_F11 {σ : rS} {k : Nat} {x : Int} : LI (sF σ 0 11 x) k = LI σ k := by funext g; unfold LI; rw [F_sF_ne (show (7 : Nat) ≠ 11 by decide)]; rfl
theorem GS0_F13 {σ : rS} {k : Nat} {x : Int} : GS0 (sF σ 0 13 x) k = GS0 σ k := by funext g; unfold GS0; rw [F_sF_ne (show (7 : Nat) ≠ 13 by decide), F_sF_ne (show (12 : Nat) ≠ 13 by decide), tr_sF]
theorem OP_F13 {σ : rS} {k : Nat} {x : Int} : OP (sF σ 0 13 x) k = OP σ k := by funext g; unfold OP; rw [F_sF_ne (show (7 : Nat) ≠ 13 by decide)]
theorem NR_F13 {σ : rS} {k : Nat} {x : Int} : NR (sF σ 0 13 x) k = NR σ k := by funext g; unfold NR; rw [F_sF_ne (show (7 : Nat) ≠ 13 by decide)]
theorem LI_F13 {σ : rS} {k : Nat} {x : Int} : LI (sF σ 0 13 x) k = LI σ k := by funext g; unfold LI; rw [F_sF_ne (show (7 : Nat) ≠ 13 by decide)]; rfl
theorem GS0_F14 {σ : rS} {k : Nat} {x : Int} : GS0 (sF σ 0 14 x) k = GS0 σ k := by funext g; unfold GS0; rw [F_sF_ne (show (7 : Nat) ≠ 14 by decide), F_sF_ne (show (12 : Nat) ≠ 14 by decide), tr_sF]
theorem OP_F14 {σ : rS} {k : Nat} {x : Int} : OP (sF σ 0 14 x) k = OP σ k := by funext g; unfold OP; rw [F_sF_ne (show (7 : Nat) ≠ 14 by decide)]
theorem NR_F14 {σ : rS} {k : Nat} {x : Int} : NR (sF σ 0 14 x) k = NR σ k := by funext g; unfold NR; rw [F_sF_ne (show (7 : Nat) ≠ 14 by decide)]
theorem LI_F14 {σ : rS} {k : Nat} {x : Int} : LI (sF σ 0 14 x) k = LI σ k := by funext g; unfold LI; rw [F_sF_ne (show (7 : Nat) ≠ 14 by decide)]; rfl
theorem GS0_F16 {σ : rS} {k : Nat} {x : Int} : GS0 (sF σ 0 16 x) k = GS0 σ k := by funext g; unfold GS0; rw [F_sF_ne (show (7 : Nat) ≠ 16 by decide), F_sF_ne (show (12 : Nat) ≠ 16 by decide), tr_sF]
theorem OP_F16 {σ : rS} {k : Nat} {x : Int} : OP (sF σ 0 16 x) k = OP σ k := by funext g; unfold OP; rw [F_sF_ne (show (7 : Nat) ≠ 16 by decide)]
theorem NR_F16 {σ : rS} {k : Nat} {x : Int} : NR (sF σ 0 16 x) k = NR σ k := by funext g; unfold NR; rw [F_sF_ne (show (7 : Nat) ≠ 16 by decide)]
theorem LI_F16 {σ : rS} {k : Nat} {x : Int} : LI (sF σ 0 16 x) k = LI σ k := by funext g; unfold LI; rw [F_sF_ne (show (7 : Nat) ≠ 16 by decide)]; rfl
theorem GS0_F17 {σ : rS} {k : Nat} {x : Int} : GS0 (sF σ 0 17 x) k = GS0 σ k := by funext g; unfold GS0; rw [F_sF_ne (show (7 : Nat) ≠ 17 by decide), F_sF_ne (show (12 : Nat) ≠ 17 by decide), tr_sF]
theorem OP_F17 {σ : rS} {k : Nat} {x : Int} : OP (sF σ 0 17 x) k = OP σ k := by funext g; unfold OP; rw [F_sF_ne (show (7 : Nat) ≠ 17 by decide)]
theorem NR_F17 {σ : rS} {k : Nat} {x : Int} : NR (sF σ 0 17 x) k = NR σ k := by funext g; unfold NR; rw [F_sF_ne (show (7 : Nat) ≠ 17 by decide)]
theorem LI_F17 {σ : rS} {k : Nat} {x : Int} : LI (sF σ 0 17 x) k = LI σ k := by funext g; unfold LI; rw [F_sF_ne (show (7 : Nat) ≠ 17 by decide)]; rfl
theorem GS0_F18 {σ : rS} {k : Nat} {x : Int} : GS0 (sF σ 0 18 x) k = GS0 σ k := by funext g; unfold GS0; rw [F_sF_ne (show (7 : Nat) ≠ 18 by decide), F_sF_ne (show (12 : Nat) ≠ 18 by decide), tr_sF]
theorem OP_F18 {σ : rS} {k : Nat} {x : Int} : OP (sF σ 0 18 x) k = OP σ k := by funext g; unfold OP; rw [F_sF_ne (show (7 : Nat) ≠ 18 by decide)]
theorem NR_F18 {σ : rS} {k : Nat} {x : Int} : NR (sF σ 0 18 x) k = NR σ k := by funext g; unfold NR; rw [F_sF_ne (show (7 : Nat) ≠ 18 by decide)]
theorem LI_F18 {σ : rS} {k : Nat} {x : Int} : LI (sF σ 0 18 x) k = LI σ k := by funext g; unfold LI; rw [F_sF_ne (show (7 : Nat) ≠ 18 by decide)]; rfl
theorem GS0_F19 {σ : rS} {k : Nat} {x : Int} : GS0 (sF σ 0 19 x) k = GS0 σ k := by funext g; unfold GS0; rw [F_sF_ne (show (7 : Nat) ≠ 19 by decide), F_sF_ne (show (12 : Nat) ≠ 19 by decide), tr_sF]
theorem OP_F19 {σ : rS} {k : Nat} {x : Int} : OP (sF σ 0 19 x) k = OP σ k := by funext g; unfold OP; rw [F_sF_ne (show (7 : Nat) ≠ 19 by decide)]
theorem NR_F19 {σ : rS} {k : Nat} {x : Int} : NR (sF σ 0 19 x) k = NR σ k := by funext g; unfold NR; rw [F_sF_ne (show (7 : Nat) ≠ 19 by decide)]
theorem LI_F19 {σ : rS} {k : Nat} {x : Int} : LI (sF σ 0 19 x) k = LI σ k := by funext g; unfold LI; rw [F_sF_ne (show (7 : Nat) ≠ 19 by decide)]; rfl
theorem GS0_a20 {σ : rS} {k : Nat} {i x : Int} : GS0 (sA σ 1020 i x) k = GS0 σ k := by funext g; unfold GS0; rw [tr_a20]; rfl
theorem OP_a20 {σ : rS} {k : Nat} {i x : Int} : OP (sA σ 1020 i x) k = OP σ k := by funext g; unfold OP; rfl
theorem NR_a20 {σ : rS} {k : Nat} {i x : Int} : NR (sA σ 1020 i x) k = NR σ k := by funext g; unfold NR; rfl
theorem LI_a20 {σ : rS} {k : Nat} {i x : Int} : LI (sA σ 1020 i x) k = LI σ k := by funext g; unfold LI; rw [tr_a20]; rfl
theorem GS0_F21 {σ : rS} {k : Nat} {x : Int} : GS0 (sF σ 0 21 x) k = GS0 σ k := by funext g; unfold GS0; rw [F_sF_ne (show (7 : Nat) ≠ 21 by decide), F_sF_ne (show (12 : Nat) ≠ 21 by decide), tr_sF]
theorem OP_F21 {σ : rS} {k : Nat} {x : Int} : OP (sF σ 0 21 x) k = OP σ k := by funext g; unfold OP; rw [F_sF_ne (show (7 : Nat) ≠ 21 by decide)]
theorem NR_F21 {σ : rS} {k : Nat} {x : Int} : NR (sF σ 0 21 x) k = NR σ k := by funext g; unfold NR; rw [F_sF_ne (show (7 : Nat) ≠ 21 by decide)]
theorem LI_F21 {σ : rS} {k : Nat} {x : Int} : LI (sF σ 0 21 x) k = LI σ k := by funext g; unfold LI; rw [F_sF_ne (show (7 : Nat) ≠ 21 by decide)]; rfl
theorem GS0_F22 {σ : rS} {k : Nat} {x : Int} : GS0 (sF σ 0 22 x) k = GS0 σ k := by funext g; unfold GS0; rw [F_sF_ne (show (7 : Nat) ≠ 22 by decide), F_sF_ne (show (12 : Nat) ≠ 22 by decide), tr_sF]
theorem OP_F22 {σ : rS} {k : Nat} {x : Int} : OP (sF σ 0 22 x) k = OP σ k := by funext g; unfold OP; rw [F_sF_ne (show (7 : Nat) ≠ 22 by decide)]
theorem NR_F22 {σ : rS} {k : Nat} {x : Int} : NR (sF σ 0 22 x) k = NR σ k := by funext g; unfold NR; rw [F_sF_ne (show (7 : Nat) ≠ 22 by decide)]
theorem LI_F22 {σ : rS} {k : Nat} {x : Int} : LI (sF σ 0 22 x) k = LI σ k := by funext g; unfold LI; rw [F_sF_ne (show (7 : Nat) ≠ 22 by decide)]; rfl
theorem GS0_F23 {σ : rS} {k : Nat} {x : Int} : GS0 (sF σ 0 23 x) k = GS0 σ k := by funext g; unfold GS0; rw [F_sF_ne (show (7 : Nat) ≠ 23 by decide), F_sF_ne (show (12 : Nat) ≠ 23 by decide), tr_sF]
theorem OP_F23 {σ : rS} {k : Nat} {x : Int} : OP (sF σ 0 23 x) k = OP σ k := by funext g; unfold OP; rw [F_sF_ne (show (7 : Nat) ≠ 23 by decide)]
theorem NR_F23 {σ : rS} {k : Nat} {x : Int} : NR (sF σ 0 23 x) k = NR σ k := by funext g; unfold NR; rw [F_sF_ne (show (7 : Nat) ≠ 23 by decide)]
theorem LI_F23 {σ : rS} {k : Nat} {x : Int} : LI (sF σ 0 23 x) k = LI σ k := by funext g; unfold LI; rw [F_sF_ne (show (7 : Nat) ≠ 23 by decide)]; rfl
theorem GS0_F24 {σ : rS} {k : Nat} {x : Int} : GS0 (sF σ 0 24 x) k = GS0 σ k := by funext g; unfold GS0; rw [F_sF_ne (show (7 : Nat) ≠ 24 by decide), F_sF_ne (show (12 : Nat) ≠ 24 by decide), tr_sF]
theorem OP_F24 {σ : rS} {k : Nat} {x : Int} : OP (sF σ 0 24 x) k = OP σ k := by funext g; unfold OP; rw [F_sF_ne (show (7 : Nat) ≠ 24 by decide)]
theorem NR_F24 {σ : rS} {k : Nat} {x : Int} : NR (sF σ 0 24 x) k = NR σ k := by funext g; unfold NR; rw [F_sF_ne (show (7 : Nat) ≠ 24 by decide)]
theorem LI_F24 {σ : rS} {k : Nat} {x : Int} : LI (sF σ 0 24 x) k = LI σ k := by funext g; unfold LI; rw [F_sF_ne (show (7 : Nat) ≠ 24 by decide)]; rfl
theorem GS0_F25 {σ : rS} {k : Nat} {x : Int} : GS0 (sF σ 0 25 x) k = GS0 σ k := by funext g; unfold GS0; rw [F_sF_ne (show (7 : Nat) ≠ 25 by decide), F_sF_ne (show (12 : Nat) ≠ 25 by decide), tr_sF]
theorem OP_F25 {σ : rS} {k : Nat} {x : Int} : OP (sF σ 0 25 x) k = OP σ k := by funext g; unfold OP; rw [F_sF_ne (show (7 : Nat) ≠ 25 by decide)]
theorem NR_F25 {σ : rS} {k : Nat} {x : Int} : NR (sF σ 0 25 x) k = NR σ k := by funext g; unfold NR; rw [F_sF_ne (show (7 : Nat) ≠ 25 by decide)]
theorem LI_F25 {σ : rS} {k : Nat} {x : Int} : LI (sF σ 0 25 x) k = LI σ k := by funext g; unfold LI; rw [F_sF_ne (show (7 : Nat) ≠ 25 by decide)]; rfl
theorem GS0_a26 {σ : rS} {k : Nat} {i x : Int} : GS0 (sA σ 1026 i x) k = GS0 σ k := by funext g; unfold GS0; rw [tr_a26]; rfl
theorem OP_a26 {σ : rS} {k : Nat} {i x : Int} : OP (sA σ 1026 i x) k = OP σ k := by funext g; unfold OP; rfl
theorem NR_a26 {σ : rS} {k : Nat} {i x : Int} : NR (sA σ 1026 i x) k = NR σ k := by funext g; unfold NR; rfl
theorem LI_a26 {σ : rS} {k : Nat} {i x : Int} : LI (sA σ 1026 i x) k = LI σ k := by funext g; unfold LI; rw [tr_a26]; rfl
theorem GS0_a27 {σ : rS} {k : Nat} {i x : Int} : GS0 (sA σ 1027 i x) k = GS0 σ k := by funext g; unfold GS0; rw [tr_a27]; rfl
theorem OP_a27 {σ : rS} {k : Nat} {i x : Int} : OP (sA σ 1027 i x) k = OP σ k := by funext g; unfold OP; rfl
theorem NR_a27 {σ : rS} {k : Nat} {i x : Int} : NR (sA σ 1027 i x) k = NR σ k := by funext g; unfold NR; rfl
theorem LI_a27 {σ : rS} {k : Nat} {i x : Int} : LI (sA σ 1027 i x) k = LI σ k := by funext g; unfold LI; rw [tr_a27]; rfl
theorem GS0_F28 {σ : rS} {k : Nat} {x : Int} : GS0 (sF σ 0 28 x) k = GS0 σ k := by funext g; unfold GS0; rw [F_sF_ne (show (7 : Nat) ≠ 28 by decide), F_sF_ne (show (12 : Nat) ≠ 28 by decide), tr_sF]
theorem OP_F28 {σ : rS} {k : Nat} {x : Int} : OP (sF σ 0 28 x) k = OP σ k := by funext g; unfold OP; rw [F_sF_ne (show (7 : Nat) ≠ 28 by decide)]
theorem NR_F28 {σ : rS} {k : Nat} {x : Int} : NR (sF σ 0 28 x) k = NR σ k := by funext g; unfold NR; rw [F_sF_ne (show (7 : Nat) ≠ 28 by decide)]
theorem LI_F28 {σ : rS} {k : Nat} {x : Int} : LI (sF σ 0 28 x) k = LI σ k := by funext g; unfold LI; rw [F_sF_ne (show (7 : Nat) ≠ 28 by decide)]; rfl
theorem GS0_F29 {σ : rS} {k : Nat} {x : Int} : GS0 (sF σ 0 29 x) k = GS0 σ k := by funext g; unfold GS0; rw [F_sF_ne (show (7 : Nat) ≠ 29 by decide), F_sF_ne (show (12 : Nat) ≠ 29 by decide), tr_sF]
theorem OP_F29 {σ : rS} {k : Nat} {x : Int} : OP (sF σ 0 29 x) k = OP σ k := by funext g; unfold OP; rw [F_sF_ne (show (7 : Nat) ≠ 29 by decide)]
theorem NR_F29 {σ : rS} {k : Nat} {x : Int} : NR (sF σ 0 29 x) k = NR σ k := by funext g; unfold NR; rw [F_sF_ne (show (7 : Nat) ≠ 29 by decide)]
theorem LI_F29 {σ : rS} {k : Nat} {x : Int} : LI (sF σ 0 29 x) k = LI σ k := by funext g; unfold LI; rw [F_sF_ne (show (7 : Nat) ≠ 29 by decide)]; rfl
theorem GS0_F30 {σ : rS} {k : Nat} {x : Int} : GS0 (sF σ 0 30 x) k = GS0 σ k := by funext g; unfold GS0; rw [F_sF_ne (show (7 : Nat) ≠ 30 by decide), F_sF_ne (show (12 : Nat) ≠ 30 by decide), tr_sF]
theorem OP_F30 {σ : rS} {k : Nat} {x : Int} : OP (sF σ 0 30 x) k = OP σ k := by funext g; unfold OP; rw [F_sF_ne (show (7 : Nat) ≠ 30 by decide)]
theorem NR_F30 {σ : rS} {k : Nat} {x : Int} : NR (sF σ 0 30 x) k = NR σ k := by funext g; unfold NR; rw [F_sF_ne (show (7 : Nat) ≠ 30 by decide)]
theorem LI_F30 {σ : rS} {k : Nat} {x : Int} : LI (sF σ 0 30 x) k = LI σ k := by funext g; unfold LI; rw [F_sF_ne (show (7 : Nat) ≠ 30 by decide)]; rfl
theorem GS0_F31 {σ : rS} {k : Nat} {x : Int} : GS0 (sF σ 0 31 x) k = GS0 σ k := by funext g; unfold GS0; rw [F_sF_ne (show (7 : Nat) ≠ 31 by decide), F_sF_ne (show (12 : Nat) ≠ 31 by decide), tr_sF]
theorem OP_F31 {σ : rS} {k : Nat} {x : Int} : OP (sF σ 0 31 x) k = OP σ k := by funext g; unfold OP; rw [F_sF_ne (show (7 : Nat) ≠ 31 by decide)]
theorem NR_F31 {σ : rS} {k : Nat} {x : Int} : NR (sF σ 0 31 x) k = NR σ k := by funext g; unfold NR; rw [F_sF_ne (show (7 : Nat) ≠ 31 by decide)]
theorem LI_F31 {σ : rS} {k : Nat} {x : Int} : LI (sF σ 0 31 x) k = LI σ k := by funext g; unfold LI; rw [F_sF_ne (show (7 : Nat) ≠ 31 by decide)]; rfl
theorem GS0_F32 {σ : rS} {k : Nat} {x : Int} : GS0 (sF σ 0 32 x) k = GS0 σ k := by funext g; unfold GS0; rw [F_sF_ne (show (7 : Nat) ≠ 32 by decide), F_sF_ne (show (12 : Nat) ≠ 32 by decide), tr_sF]
theorem OP_F32 {σ : rS} {k : Nat} {x : Int} : OP (sF σ 0 32 x) k = OP σ k := by funext g; unfold OP; rw [F_sF_ne (show (7 : Nat) ≠ 32 by decide)]
theorem NR_F32 {σ : rS} {k : Nat} {x : Int} : NR (sF σ 0 32 x) k = NR σ k := by funext g; unfold NR; rw [F_sF_ne (show (7 : Nat) ≠ 32 by decide)]
theorem LI_F32 {σ : rS} {k : Nat} {x : Int} : LI (sF σ 0 32 x) k = LI σ k := by funext g; unfold LI; rw [F_sF_ne (show (7 : Nat) ≠ 32 by decide)]; rfl
theorem GS0_F33 {σ : rS} {k : Nat} {x : Int} : GS0 (sF σ 0 33 x) k = GS0 σ k := by funext g; unfold GS0; rw [F_sF_ne (show (7 : Nat) ≠ 33 by decide), F_sF_ne (show (12 : Nat) ≠ 33 by decide), tr_sF]
theorem OP_F33 {σ : rS} {k : Nat} {x : Int} : OP (sF σ 0 33 x) k = OP σ k := by funext g; unfold OP; rw [F_sF_ne (show (7 : Nat) ≠ 33 by decide)]
theorem NR_F33 {σ : rS} {k : Nat} {x : Int} : NR (sF σ 0 33 x) k = NR σ k := by funext g; unfold NR; rw [F_sF_ne (show (7 : Nat) ≠ 33 by decide)]
theorem LI_F33 {σ : rS} {k : Nat} {x : Int} : LI (sF σ 0 33 x) k = LI σ k := by funext g; unfold LI; rw [F_sF_ne (show (7 : Nat) ≠ 33 by decide)]; rfl
theorem GS0_a34 {σ : rS} {k : Nat} {i x : Int} : GS0 (sA σ 1034 i x) k = GS0 σ k := by funext g; unfold GS0; rw [tr_a34]; rfl
theorem OP_a34 {σ : rS} {k : Nat} {i x : Int} : OP (sA σ 1034 i x) k = OP σ k := by funext g; unfold OP; rfl
theorem NR_a34 {σ : rS} {k : Nat} {i x : Int} : NR (sA σ 1034 i x) k = NR σ k := by funext g; unfold NR; rfl
theorem LI_a34 {σ : rS} {k : Nat} {i x : Int} : LI (sA σ 1034 i x) k = LI σ k := by funext g; unfold LI; rw [tr_a34]; rfl
theorem GS0_a35 {σ : rS} {k : Nat} {i x : Int} : GS0 (sA σ 1035 i x) k = GS0 σ k := by funext g; unfold GS0; rw [tr_a35]; rfl
theorem OP_a35 {σ : rS} {k : Nat} {i x : Int} : OP (sA σ 1035 i x) k = OP σ k := by funext g; unfold OP; rfl
theorem NR_a35 {σ : rS} {k : Nat} {i x : Int} : NR (sA σ 1035 i x) k = NR σ k := by funext g; unfold NR; rfl
theorem LI_a35 {σ : rS} {k : Nat} {i x : Int} : LI (sA σ 1035 i x) k = LI σ k := by funext g; unfold LI; rw [tr_a35]; rfl
theorem GS0_a36 {σ : rS} {k : Nat} {i x : Int} : GS0 (sA σ 1036 i x) k = GS0 σ k := by funext g; unfold GS0; rw [tr_a36]; rfl
theorem OP_a36 {σ : rS} {k : Nat} {i x : Int} : OP (sA σ 1036 i x) k = OP σ k := by funext g; unfold OP; rfl
theorem NR_a36 {σ : rS} {k : Nat} {i x : Int} : NR (sA σ 1036 i x) k = NR σ k := by funext g; unfold NR; rfl
theorem LI_a36 {σ : rS} {k : Nat} {i x : Int} : LI (sA σ 1036 i x) k = LI σ k := by funext g; unfold LI; rw [tr_a36]; rfl
theorem GS0_a37 {σ : rS} {k : Nat} {i x : Int} : GS0 (sA σ 1037 i x) k = GS0 σ k := by funext g; unfold GS0; rw [tr_a37]; rfl
theorem OP_a37 {σ : rS} {k : Nat} {i x : Int} : OP (sA σ 1037 i x) k = OP σ k := by funext g; unfold OP; rfl
theorem NR_a37 {σ : rS} {k : Nat} {i x : Int} : NR (sA σ 1037 i x) k = NR σ k := by funext g; unfold NR; rfl
theorem LI_a37 {σ : rS} {k : Nat} {i x : Int} : LI (sA σ 1037 i x) k = LI σ k := by funext g; unfold LI; rw [tr_a37]; rfl
theorem GS0_F38 {σ : rS} {k : Nat} {x : Int} : GS0 (sF σ 0 38 x) k = GS0 σ k := by funext g; unfold GS0; rw [F_sF_ne (show (7 : Nat) ≠ 38 by decide), F_sF_ne (show (12 : Nat) ≠ 38 by decide), tr_sF]
theorem OP_F38 {σ : rS} {k : Nat} {x : Int} : OP (sF σ 0 38 x) k = OP σ k := by funext g; unfold OP; rw [F_sF_ne (show (7 : Nat) ≠ 38 by decide)]
theorem NR_F38 {σ : rS} {k : Nat} {x : Int} : NR (sF σ 0 38 x) k = NR σ k := by funext g; unfold NR; rw [F_sF_ne (show (7 : Nat) ≠ 38 by decide)]
theorem LI_F38 {σ : rS} {k : Nat} {x : Int} : LI (sF σ 0 38 x) k = LI σ k := by funext g; unfold LI; rw [F_sF_ne (show (7 : Nat) ≠ 38 by decide)]; rfl
theorem GS0_F39 {σ : rS} {k : Nat} {x : Int} : GS0 (sF σ 0 39 x) k = GS0 σ k := by funext g; unfold GS0; rw [F_sF_ne (show (7 : Nat) ≠ 39 by decide), F_sF_ne (show (12 : Nat) ≠ 39 by decide), tr_sF]
theorem OP_F39 {σ : rS} {k : Nat} {x : Int} : OP (sF σ 0 39 x) k = OP σ k := by funext g; unfold OP; rw [F_sF_ne (show (7 : Nat) ≠ 39 by decide)]
theorem NR_F39 {σ : rS} {k : Nat} {x : Int} : NR (sF σ 0 39 x) k = NR σ k := by funext g; unfold NR; rw [F_sF_ne (show (7 : Nat) ≠ 39 by decide)]
theorem LI_F39 {σ : rS} {k : Nat} {x : Int} : LI (sF σ 0 39 x) k = LI σ k := by funext g; unfold LI; rw [F_sF_ne (show (7 : Nat) ≠ 39 by decide)]; rfl
theorem GS0_a40 {σ : rS} {k : Nat} {i x : Int} : GS0 (sA σ 1040 i x) k = GS0 σ k := by funext g; unfold GS0; rw [tr_a40]; rfl
theorem OP_a40 {σ : rS} {k : Nat} {i x : Int} : OP (sA σ 1040 i x) k = OP σ k := by funext g; unfold OP; rfl
theorem NR_a40 {σ : rS} {k : Nat} {i x : Int} : NR (sA σ 1040 i x) k = NR σ k := by funext g; unfold NR; rfl
theorem LI_a40 {σ : rS} {k : Nat} {i x : Int} : LI (sA σ 1040 i x) k = LI σ k := by funext g; unfold LI; rw [tr_a40]; rfl
theorem GS0_F41 {σ : rS} {k : Nat} {x : Int} : GS0 (sF σ 0 41 x) k = GS0 σ k := by funext g; unfold GS0; rw [F_sF_ne (show (7 : Nat) ≠ 41 by decide), F_sF_ne (show (12 : Nat) ≠ 41 by decide), tr_sF]
theorem OP_F41 {σ : rS} {k : Nat} {x : Int} : OP (sF σ 0 41 x) k = OP σ k := by funext g; unfold OP; rw [F_sF_ne (show (7 : Nat) ≠ 41 by decide)]
theorem NR_F41 {σ : rS} {k : Nat} {x : Int} : NR (sF σ 0 41 x) k = NR σ k := by funext g; unfold NR; rw [F_sF_ne (show (7 : Nat) ≠ 41 by decide)]
theorem LI_F41 {σ : rS} {k : Nat} {x : Int} : LI (sF σ 0 41 x) k = LI σ k := by funext g; unfold LI; rw [F_sF_ne (show (7 : Nat) ≠ 41 by decide)]; rfl
theorem GS0_F42 {σ : rS} {k : Nat} {x : Int} : GS0 (sF σ 0 42 x) k = GS0 σ k := by funext g; unfold GS0; rw [F_sF_ne (show (7 : Nat) ≠ 42 by decide), F_sF_ne (show (12 : Nat) ≠ 42 by decide), tr_sF]
theorem OP_F42 {σ : rS} {k : Nat} {x : Int} : OP (sF σ 0 42 x) k = OP σ k := by funext g; unfold OP; rw [F_sF_ne (show (7 : Nat) ≠ 42 by decide)]
theorem NR_F42 {σ : rS} {k : Nat} {x : Int} : NR (sF σ 0 42 x) k = NR σ k := by funext g; unfold NR; rw [F_sF_ne (show (7 : Nat) ≠ 42 by decide)]
theorem LI_F42 {σ : rS} {k : Nat} {x : Int} : LI (sF σ 0 42 x) k = LI σ k := by funext g; unfold LI; rw [F_sF_ne (show (7 : Nat) ≠ 42 by decide)]; rfl
theorem GS0_F43 {σ : rS} {k : Nat} {x : Int} : GS0 (sF σ 0 43 x) k = GS0 σ k := by funext g; unfold GS0; rw [F_sF_ne (show (7 : Nat) ≠ 43 by decide), F_sF_ne (show (12 : Nat) ≠ 43 by decide), tr_sF]
theorem OP_F43 {σ : rS} {k : Nat} {x : Int} : OP (sF σ 0 43 x) k = OP σ k := by funext g; unfold OP; rw [F_sF_ne (show (7 : Nat) ≠ 43 by decide)]
theorem NR_F43 {σ : rS} {k : Nat} {x : Int} : NR (sF σ 0 43 x) k = NR σ k := by funext g; unfold NR; rw [F_sF_ne (show (7 : Nat) ≠ 43 by decide)]
theorem LI_F43 {σ : rS} {k : Nat} {x : Int} : LI (sF σ 0 43 x) k = LI σ k := by funext g; unfold LI; rw [F_sF_ne (show (7 : Nat) ≠ 43 by decide)]; rfl
theorem GS0_F44 {σ : rS} {k : Nat} {x : Int} : GS0 (sF σ 0 44 x) k = GS0 σ k := by funext g; unfold GS0; rw [F_sF_ne (show (7 : Nat) ≠ 44 by decide), F_sF_ne (show (12 : Nat) ≠ 44 by decide), tr_sF]
theorem OP_F44 {σ : rS} {k : Nat} {x : Int} : OP (sF σ 0 44 x) k = OP σ k := by funext g; unfold OP; rw [F_sF_ne (show (7 : Nat) ≠ 44 by decide)]
theorem NR_F44 {σ : rS} {k : Nat} {x : Int} : NR (sF σ 0 44 x) k = NR σ k := by funext g; unfold NR; rw [F_sF_ne (show (7 : Nat) ≠ 44 by decide)]
theorem LI_F44 {σ : rS} {k : Nat} {x : Int} : LI (sF σ 0 44 x) k = LI σ k := by funext g; unfold LI; rw [F_sF_ne (show (7 : Nat) ≠ 44 by decide)]; rfl
theorem GS0_F45 {σ : rS} {k : Nat} {x : Int} : GS0 (sF σ 0 45 x) k = GS0 σ k := by funext g; unfold GS0; rw [F_sF_ne (show (7 : Nat) ≠ 45 by decide), F_sF_ne (show (12 : Nat) ≠ 45 by decide), tr_sF]
theorem OP_F45 {σ : rS} {k : Nat} {x : Int} : OP (sF σ 0 45 x) k = OP σ k := by funext g; unfold OP; rw [F_sF_ne (show (7 : Nat) ≠ 45 by decide)]
theorem NR_F45 {σ : rS} {k : Nat} {x : Int} : NR (sF σ 0 45 x) k = NR σ k := by funext g; unfold NR; rw [F_sF_ne (show (7 : Nat) ≠ 45 by decide)]
theorem LI_F45 {σ : rS} {k : Nat} {x : Int} : LI (sF σ 0 45 x) k = LI σ k := by funext g; unfold LI; rw [F_sF_ne (show (7 : Nat) ≠ 45 by decide)]; rfl
theorem GS0_a46 {σ : rS} {k : Nat} {i x : Int} : GS0 (sA σ 1046 i x) k = GS0 σ k := by funext g; unfold GS0; rw [tr_a46]; rfl
theorem OP_a46 {σ : rS} {k : Nat} {i x : Int} : OP (sA σ 1046 i x) k = OP σ k := by funext g; unfold OP; rfl
theorem NR_a46 {σ : rS} {k : Nat} {i x : Int} : NR (sA σ 1046 i x) k = NR σ k := by funext g; unfold NR; rfl
theorem LI_a46 {σ : rS} {k : Nat} {i x : Int} : LI (sA σ 1046 i x) k = LI σ k := by funext g; unfold LI; rw [tr_a46]; rfl
theorem GS0_a47 {σ : rS} {k : Nat} {i x : Int} : GS0 (sA σ 1047 i x) k = GS0 σ k := by funext g; unfold GS0; rw [tr_a47]; rfl
theorem OP_a47 {σ : rS} {k : Nat} {i x : Int} : OP (sA σ 1047 i x) k = OP σ k := by funext g; unfold OP; rfl
theorem NR_a47 {σ : rS} {k : Nat} {i x : Int} : NR (sA σ 1047 i x) k = NR σ k := by funext g; unfold NR; rfl
theorem LI_a47 {σ : rS} {k : Nat} {i x : Int} : LI (sA σ 1047 i x) k = LI σ k := by funext g; unfold LI; rw [tr_a47]; rfl
theorem GS0_a48 {σ : rS} {k : Nat} {i x : Int} : GS0 (sA σ 1048 i x) k = GS0 σ k := by funext g; unfold GS0; rw [tr_a48]; rfl
theorem OP_a48 {σ : rS} {k : Nat} {i x : Int} : OP (sA σ 1048 i x) k = OP σ k := by funext g; unfold OP; rfl
theorem NR_a48 {σ : rS} {k : Nat} {i x : Int} : NR (sA σ 1048 i x) k = NR σ k := by funext g; unfold NR; rfl
theorem LI_a48 {σ : rS} {k : Nat} {i x : Int} : LI (sA σ 1048 i x) k = LI σ k := by funext g; unfold LI; rw [tr_a48]; rfl
theorem GS0_a49 {σ : rS} {k : Nat} {i x : Int} : GS0 (sA σ 1049 i x) k = GS0 σ k := by funext g; unfold GS0; rw [tr_a49]; rfl
theorem OP_a49 {σ : rS} {k : Nat} {i x : Int} : OP (sA σ 1049 i x) k = OP σ k := by funext g; unfold OP; rfl
theorem NR_a49 {σ : rS} {k : Nat} {i x : Int} : NR (sA σ 1049 i x) k = NR σ k := by funext g; unfold NR; rfl
theorem LI_a49 {σ : rS} {k : Nat} {i x : Int} : LI (sA σ 1049 i x) k = LI σ k := by funext g; unfold LI; rw [tr_a49]; rfl
theorem GS0_a50 {σ : rS} {k : Nat} {i x : Int} : GS0 (sA σ 1050 i x) k = GS0 σ k := by funext g; unfold GS0; rw [tr_a50]; rfl
theorem OP_a50 {σ : rS} {k : Nat} {i x : Int} : OP (sA σ 1050 i x) k = OP σ k := by funext g; unfold OP; rfl
theorem NR_a50 {σ : rS} {k : Nat} {i x : Int} : NR (sA σ 1050 i x) k = NR σ k := by funext g; unfold NR; rfl
theorem LI_a50 {σ : rS} {k : Nat} {i x : Int} : LI (sA σ 1050 i x) k = LI σ k := by funext g; unfold LI; rw [tr_a50]; rfl
theorem GS0_a51 {σ : rS} {k : Nat} {i x : Int} : GS0 (sA σ 1051 i x) k = GS0 σ k := by funext g; unfold GS0; rw [tr_a51]; rfl
theorem OP_a51 {σ : rS} {k : Nat} {i x : Int} : OP (sA σ 1051 i x) k = OP σ k := by funext g; unfold OP; rfl
theorem NR_a51 {σ : rS} {k : Nat} {i x : Int} : NR (sA σ 1051 i x) k = NR σ k := by funext g; unfold NR; rfl
theorem LI_a51 {σ : rS} {k : Nat} {i x : Int} : LI (sA σ 1051 i x) k = LI σ k := by funext g; unfold LI; rw [tr_a51]; rfl
theorem GS0_a52 {σ : rS} {k : Nat} {i x : Int} : GS0 (sA σ 1052 i x) k = GS0 σ k := by funext g; unfold GS0; rw [tr_a52]; rfl
theorem OP_a52 {σ : rS} {k : Nat} {i x : Int} : OP (sA σ 1052 i x) k = OP σ k := by funext g; unfold OP; rfl
theorem NR_a52 {σ : rS} {k : Nat} {i x : Int} : NR (sA σ 1052 i x) k = NR σ k := by funext g; unfold NR; rfl
theorem LI_a52 {σ : rS} {k : Nat} {i x : Int} : LI (sA σ 1052 i x) k = LI σ k := by funext g; unfold LI; rw [tr_a52]; rfl
theorem GS0_a53 {σ : rS} {k : Nat} {i x : Int} : GS0 (sA σ 1053 i x) k = GS0 σ k := by funext g; unfold GS0; rw [tr_a53]; rfl
theorem OP_a53 {σ : rS} {k : Nat} {i x : Int} : OP (sA σ 1053 i x) k = OP σ k := by funext g; unfold OP; rfl
theorem NR_a53 {σ : rS} {k : Nat} {i x : Int} : NR (sA σ 1053 i x) k = NR σ k := by funext g; unfold NR; rfl
theorem LI_a53 {σ : rS} {k : Nat} {i x : Int} : LI (sA σ 1053 i x) k = LI σ k := by funext g; unfold LI; rw [tr_a53]; rfl
theorem GS0_a54 {σ : rS} {k : Nat} {i x : Int} : GS0 (sA σ 1054 i x) k = GS0 σ k := by funext g; unfold GS0; rw [tr_a54]; rfl
theorem OP_a54 {σ : rS} {k : Nat} {i x : Int} : OP (sA σ 1054 i x) k = OP σ k := by funext g; unfold OP; rfl
theorem NR_a54 {σ : rS} {k : Nat} {i x : Int} : NR (sA σ 1054 i x) k = NR σ k := by funext g; unfold NR; rfl
theorem LI_a54 {σ : rS} {k : Nat} {i x : Int} : LI (sA σ 1054 i x) k = LI σ k := by funext g; unfold LI; rw [tr_a54]; rfl
theorem GS0_a55 {σ : rS} {k : Nat} {i x : Int} : GS0 (sA σ 1055 i x) k = GS0 σ k := by funext g; unfold GS0; rw [tr_a55]; rfl
theorem OP_a55 {σ : rS} {k : Nat} {i x : Int} : OP (sA σ 1055 i x) k = OP σ k := by funext g; unfold OP; rfl
theorem NR_a55 {σ : rS} {k : Nat} {i x : Int} : NR (sA σ 1055 i x) k = NR σ k := by funext g; unfold NR; rfl
theorem LI_a55 {σ : rS} {k : Nat} {i x : Int} : LI (sA σ 1055 i x) k = LI σ k := by funext g; unfold LI; rw [tr_a55]; rfl
theorem GS0_a56 {σ : rS} {k : Nat} {i x : Int} : GS0 (sA σ 1056 i x) k = GS0 σ k := by funext g; unfold GS0; rw [tr_a56]; rfl
theorem OP_a56 {σ : rS} {k : Nat} {i x : Int} : OP (sA σ 1056 i x) k = OP σ k := by funext g; unfold OP; rfl
theorem NR_a56 {σ : rS} {k : Nat} {i x : Int} : NR (sA σ 1056 i x) k = NR σ k := by funext g; unfold NR; rfl
theorem LI_a56 {σ : rS} {k : Nat} {i x : Int} : LI (sA σ 1056 i x) k = LI σ k := by funext g; unfold LI; rw [tr_a56]; rfl
theorem GS0_a57 {σ : rS} {k : Nat} {i x : Int} : GS0 (sA σ 1057 i x) k = GS0 σ k := by funext g; unfold GS0; rw [tr_a57]; rfl
theorem OP_a57 {σ : rS} {k : Nat} {i x : Int} : OP (sA σ 1057 i x) k = OP σ k := by funext g; unfold OP; rfl
theorem NR_a57 {σ : rS} {k : Nat} {i x : Int} : NR (sA σ 1057 i x) k = NR σ k := by funext g; unfold NR; rfl
theorem LI_a57 {σ : rS} {k : Nat} {i x : Int} : LI (sA σ 1057 i x) k = LI σ k := by funext g; unfold LI; rw [tr_a57]; rfl
theorem GS0_a58 {σ : rS} {k : Nat} {i x : Int} : GS0 (sA σ 1058 i x) k = GS0 σ k := by funext g; unfold GS0; rw [tr_a58]; rfl
theorem OP_a58 {σ : rS} {k : Nat} {i x : Int} : OP (sA σ 1058 i x) k = OP σ k := by funext g; unfold OP; rfl
theorem NR_a58 {σ : rS} {k : Nat} {i x : Int} : NR (sA σ 1058 i x) k = NR σ k := by funext g; unfold NR; rfl
theorem LI_a58 {σ : rS} {k : Nat} {i x : Int} : LI (sA σ 1058 i x) k = LI σ k := by funext g; unfold LI; rw [tr_a58]; rfl
theorem GS0_a59 {σ : rS} {k : Nat} {i x : Int} : GS0 (sA σ 1059 i x) k = GS0 σ k := by funext g; unfold GS0; rw [tr_a59]; rfl
theorem OP_a59 {σ : rS} {k : Nat} {i x : Int} : OP (sA σ 1059 i x) k = OP σ k := by funext g; unfold OP; rfl
theorem NR_a59 {σ : rS} {k : Nat} {i x : Int} : NR (sA σ 1059 i x) k = NR σ k := by funext g; unfold NR; rfl
theorem LI_a59 {σ : rS} {k : Nat} {i x : Int} : LI (sA σ 1059 i x) k = LI σ k := by funext g; unfold LI; rw [tr_a59]; rfl
theorem GS0_F60 {σ : rS} {k : Nat} {x : Int} : GS0 (sF σ 0 60 x) k = GS0 σ k := by funext g; unfold GS0; rw [F_sF_ne (show (7 : Nat) ≠ 60 by decide), F_sF_ne (show (12 : Nat) ≠ 60 by decide), tr_sF]
theorem OP_F60 {σ : rS} {k : Nat} {x : Int} : OP (sF σ 0 60 x) k = OP σ k := by funext g; unfold OP; rw [F_sF_ne (show (7 : Nat) ≠ 60 by decide)]
theorem NR_F60 {σ : rS} {k : Nat} {x : Int} : NR (sF σ 0 60 x) k = NR σ k := by funext g; unfold NR; rw [F_sF_ne (show (7 : Nat) ≠ 60 by decide)]
theorem LI_F60 {σ : rS} {k : Nat} {x : Int} : LI (sF σ 0 60 x) k = LI σ k := by funext g; unfold LI; rw [F_sF_ne (show (7 : Nat) ≠ 60 by decide)]; rfl
theorem GS0_a61 {σ : rS} {k : Nat} {i x : Int} : GS0 (sA σ 1061 i x) k = GS0 σ k := by funext g; unfold GS0; rw [tr_a61]; rfl
theorem OP_a61 {σ : rS} {k : Nat} {i x : Int} : OP (sA σ 1061 i x) k = OP σ k := by funext g; unfold OP; rfl
theorem NR_a61 {σ : rS} {k : Nat} {i x : Int} : NR (sA σ 1061 i x) k = NR σ k := by funext g; unfold NR; rfl
theorem LI_a61 {σ : rS} {k : Nat} {i x : Int} : LI (sA σ 1061 i x) k = LI σ k := by funext g; unfold LI; rw [tr_a61]; rfl
theorem GS0_a62 {σ : rS} {k : Nat} {i x : Int} : GS0 (sA σ 1062 i x) k = GS0 σ k := by funext g; unfold GS0; rw [tr_a62]; rfl
theorem OP_a62 {σ : rS} {k : Nat} {i x : Int} : OP (sA σ 1062 i x) k = OP σ k := by funext g; unfold OP; rfl
theorem NR_a62 {σ : rS} {k : Nat} {i x : Int} : NR (sA σ 1062 i x) k = NR σ k := by funext g; unfold NR; rfl
theorem LI_a62 {σ : rS} {k : Nat} {i x : Int} : LI (sA σ 1062 i x) k = LI σ k := by funext g; unfold LI; rw [tr_a62]; rfl
theorem GS0_a63 {σ : rS} {k : Nat} {i x : Int} : GS0 (sA σ 1063 i x) k = GS0 σ k := by funext g; unfold GS0; rw [tr_a63]; rfl
theorem OP_a63 {σ : rS} {k : Nat} {i x : Int} : OP (sA σ 1063 i x) k = OP σ k := by funext g; unfold OP; rfl
theorem NR_a63 {σ : rS} {k : Nat} {i x : Int} : NR (sA σ 1063 i x) k = NR σ k := by funext g; unfold NR; rfl
theorem LI_a63 {σ : rS} {k : Nat} {i x : Int} : LI (sA σ 1063 i x) k = LI σ k := by funext g; unfold LI; rw [tr_a63]; rfl
theorem GS0_a64 {σ : rS} {k : Nat} {i x : Int} : GS0 (sA σ 1064 i x) k = GS0 σ k := by funext g; unfold GS0; rw [tr_a64]; rfl
theorem OP_a64 {σ : rS} {k : Nat} {i x : Int} : OP (sA σ 1064 i x) k = OP σ k := by funext g; unfold OP; rfl
theorem NR_a64 {σ : rS} {k : Nat} {i x : Int} : NR (sA σ 1064 i x) k = NR σ k := by funext g; unfold NR; rfl
theorem LI_a64 {σ : rS} {k : Nat} {i x : Int} : LI (sA σ 1064 i x) k = LI σ k := by funext g; unfold LI; rw [tr_a64]; rfl
theorem GS0_F65 {σ : rS} {k : Nat} {x : Int} : GS0 (sF σ 0 65 x) k = GS0 σ k := by funext g; unfold GS0; rw [F_sF_ne (show (7 : Nat) ≠ 65 by decide), F_sF_ne (show (12 : Nat) ≠ 65 by decide), tr_sF]
theorem OP_F65 {σ : rS} {k : Nat} {x : Int} : OP (sF σ 0 65 x) k = OP σ k := by funext g; unfold OP; rw [F_sF_ne (show (7 : Nat) ≠ 65 by decide)]
theorem NR_F65 {σ : rS} {k : Nat} {x : Int} : NR (sF σ 0 65 x) k = NR σ k := by funext g; unfold NR; rw [F_sF_ne (show (7 : Nat) ≠ 65 by decide)]
theorem LI_F65 {σ : rS} {k : Nat} {x : Int} : LI (sF σ 0 65 x) k = LI σ k := by funext g; unfold LI; rw [F_sF_ne (show (7 : Nat) ≠ 65 by decide)]; rfl
theorem GS0_F66 {σ : rS} {k : Nat} {x : Int} : GS0 (sF σ 0 66 x) k = GS0 σ k := by funext g; unfold GS0; rw [F_sF_ne (show (7 : Nat) ≠ 66 by decide), F_sF_ne (show (12 : Nat) ≠ 66 by decide), tr_sF]
theorem OP_F66 {σ : rS} {k : Nat} {x : Int} : OP (sF σ 0 66 x) k = OP σ k := by funext g; unfold OP; rw [F_sF_ne (show (7 : Nat) ≠ 66 by decide)]
theorem NR_F66 {σ : rS} {k : Nat} {x : Int} : NR (sF σ 0 66 x) k = NR σ k := by funext g; unfold NR; rw [F_sF_ne (show (7 : Nat) ≠ 66 by decide)]
theorem LI_F66 {σ : rS} {k : Nat} {x : Int} : LI (sF σ 0 66 x) k = LI σ k := by funext g; unfold LI; rw [F_sF_ne (show (7 : Nat) ≠ 66 by decide)]; rfl
theorem GS0_F67 {σ : rS} {k : Nat} {x : Int} : GS0 (sF σ 0 67 x) k = GS0 σ k := by funext g; unfold GS0; rw [F_sF_ne (show (7 : Nat) ≠ 67 by decide), F_sF_ne (show (12 : Nat) ≠ 67 by decide), tr_sF]
theorem OP_F67 {σ : rS} {k : Nat} {x : Int} : OP (sF σ 0 67 x) k = OP σ k := by funext g; unfold OP; rw [F_sF_ne (show (7 : Nat) ≠ 67 by decide)]
theorem NR_F67 {σ : rS} {k : Nat} {x : Int} : NR (sF σ 0 67 x) k = NR σ k := by funext g; unfold NR; rw [F_sF_ne (show (7 : Nat) ≠ 67 by decide)]
theorem LI_F67 {σ : rS} {k : Nat} {x : Int} : LI (sF σ 0 67 x) k = LI σ k := by funext g; unfold LI; rw [F_sF_ne (show (7 : Nat) ≠ 67 by decide)]; rfl
theorem GS0_F68 {σ : rS} {k : Nat} {x : Int} : GS0 (sF σ 0 68 x) k = GS0 σ k := by funext g; unfold GS0; rw [F_sF_ne (show (7 : Nat) ≠ 68 by decide), F_sF_ne (show (12 : Nat) ≠ 68 by decide), tr_sF]
theorem OP_F68 {σ : rS} {k : Nat} {x : Int} : OP (sF σ 0 68 x) k = OP σ k := by funext g; unfold OP; rw [F_sF_ne (show (7 : Nat) ≠ 68 by decide)]
theorem NR_F68 {σ : rS} {k : Nat} {x : Int} : NR (sF σ 0 68 x) k = NR σ k := by funext g; unfold NR; rw [F_sF_ne (show (7 : Nat) ≠ 68 by decide)]
theorem LI_F68 {σ : rS} {k : Nat} {x : Int} : LI (sF σ 0 68 x) k = LI σ k := by funext g; unfold LI; rw [F_sF_ne (show (7 : Nat) ≠ 68 by decide)]; rfl
theorem GS0_a69 {σ : rS} {k : Nat} {i x : Int} : GS0 (sA σ 1069 i x) k = GS0 σ k := by funext g; unfold GS0; rw [tr_a69]; rfl
theorem OP_a69 {σ : rS} {k : Nat} {i x : Int} : OP (sA σ 1069 i x) k = OP σ k := by funext g; unfold OP; rfl
theorem NR_a69 {σ : rS} {k : Nat} {i x : Int} : NR (sA σ 1069 i x) k = NR σ k := by funext g; unfold NR; rfl
theorem LI_a69 {σ : rS} {k : Nat} {i x : Int} : LI (sA σ 1069 i x) k = LI σ k := by funext g; unfold LI; rw [tr_a69]; rfl
theorem GS0_F70 {σ : rS} {k : Nat} {x : Int} : GS0 (sF σ 0 70 x) k = GS0 σ k := by funext g; unfold GS0; rw [F_sF_ne (show (7 : Nat) ≠ 70 by decide), F_sF_ne (show (12 : Nat) ≠ 70 by decide), tr_sF]
theorem OP_F70 {σ : rS} {k : Nat} {x : Int} : OP (sF σ 0 70 x) k = OP σ k := by funext g; unfold OP; rw [F_sF_ne (show (7 : Nat) ≠ 70 by decide)]
theorem NR_F70 {σ : rS} {k : Nat} {x : Int} : NR (sF σ 0 70 x) k = NR σ k := by funext g; unfold NR; rw [F_sF_ne (show (7 : Nat) ≠ 70 by decide)]
theorem LI_F70 {σ : rS} {k : Nat} {x : Int} : LI (sF σ 0 70 x) k = LI σ k := by funext g; unfold LI; rw [F_sF_ne (show (7 : Nat) ≠ 70 by decide)]; rfl
theorem GS0_F71 {σ : rS} {k : Nat} {x : Int} : GS0 (sF σ 0 71 x) k = GS0 σ k := by funext g; unfold GS0; rw [F_sF_ne (show (7 : Nat) ≠ 71 by decide), F_sF_ne (show (12 : Nat) ≠ 71 by decide), tr_sF]
theorem OP_F71 {σ : rS} {k : Nat} {x : Int} : OP (sF σ 0 71 x) k = OP σ k := by funext g; unfold OP; rw [F_sF_ne (show (7 : Nat) ≠ 71 by decide)]
theorem NR_F71 {σ : rS} {k : Nat} {x : Int} : NR (sF σ 0 71 x) k = NR σ k := by funext g; unfold NR; rw [F_sF_ne (show (7 : Nat) ≠ 71 by decide)]
theorem LI_F71 {σ : rS} {k : Nat} {x : Int} : LI (sF σ 0 71 x) k = LI σ k := by funext g; unfold LI; rw [F_sF_ne (show (7 : Nat) ≠ 71 by decide)]; rfl
theorem GS0_F72 {σ : rS} {k : Nat} {x : Int} : GS0 (sF σ 0 72 x) k = GS0 σ k := by funext g; unfold GS0; rw [F_sF_ne (show (7 : Nat) ≠ 72 by decide), F_sF_ne (show (12 : Nat) ≠ 72 by decide), tr_sF]
theorem OP_F72 {σ : rS} {k : Nat} {x : Int} : OP (sF σ 0 72 x) k = OP σ k := by funext g; unfold OP; rw [F_sF_ne (show (7 : Nat) ≠ 72 by decide)]
theorem NR_F72 {σ : rS} {k : Nat} {x : Int} : NR (sF σ 0 72 x) k = NR σ k := by funext g; unfold NR; rw [F_sF_ne (show (7 : Nat) ≠ 72 by decide)]
theorem LI_F72 {σ : rS} {k : Nat} {x : Int} : LI (sF σ 0 72 x) k = LI σ k := by funext g; unfold LI; rw [F_sF_ne (show (7 : Nat) ≠ 72 by decide)]; rfl
theorem GS0_F73 {σ : rS} {k : Nat} {x : Int} : GS0 (sF σ 0 73 x) k = GS0 σ k := by funext g; unfold GS0; rw [F_sF_ne (show (7 : Nat) ≠ 73 by decide), F_sF_ne (show (12 : Nat) ≠ 73 by decide), tr_sF]
theorem OP_F73 {σ : rS} {k : Nat} {x : Int} : OP (sF σ 0 73 x) k = OP σ k := by funext g; unfold OP; rw [F_sF_ne (show (7 : Nat) ≠ 73 by decide)]
theorem NR_F73 {σ : rS} {k : Nat} {x : Int} : NR (sF σ 0 73 x) k = NR σ k := by funext g; unfold NR; rw [F_sF_ne (show (7 : Nat) ≠ 73 by decide)]
theorem LI_F73 {σ : rS} {k : Nat} {x : Int} : LI (sF σ 0 73 x) k = LI σ k := by funext g; unfold LI; rw [F_sF_ne (show (7 : Nat) ≠ 73 by decide)]; rfl
theorem GS0_F74 {σ : rS} {k : Nat} {x : Int} : GS0 (sF σ 0 74 x) k = GS0 σ k := by funext g; unfold GS0; rw [F_sF_ne (show (7 : Nat) ≠ 74 by decide), F_sF_ne (show (12 : Nat) ≠ 74 by decide), tr_sF]
theorem OP_F74 {σ : rS} {k : Nat} {x : Int} : OP (sF σ 0 74 x) k = OP σ k := by funext g; unfold OP; rw [F_sF_ne (show (7 : Nat) ≠ 74 by decide)]
theorem NR_F74 {σ : rS} {k : Nat} {x : Int} : NR (sF σ 0 74 x) k = NR σ k := by funext g; unfold NR; rw [F_sF_ne (show (7 : Nat) ≠ 74 by decide)]
theorem LI_F74 {σ : rS} {k : Nat} {x : Int} : LI (sF σ 0 74 x) k = LI σ k := by funext g; unfold LI; rw [F_sF_ne (show (7 : Nat) ≠ 74 by decide)]; rfl
theorem GS0_a75 {σ : rS} {k : Nat} {i x : Int} : GS0 (sA σ 1075 i x) k = GS0 σ k := by funext g; unfold GS0; rw [tr_a75]; rfl
theorem OP_a75 {σ : rS} {k : Nat} {i x : Int} : OP (sA σ 1075 i x) k = OP σ k := by funext g; unfold OP; rfl
theorem NR_a75 {σ : rS} {k : Nat} {i x : Int} : NR (sA σ 1075 i x) k = NR σ k := by funext g; unfold NR; rfl
theorem LI_a75 {σ : rS} {k : Nat} {i x : Int} : LI (sA σ 1075 i x) k = LI σ k := by funext g; unfold LI; rw [tr_a75]; rfl
theorem GS0_a76 {σ : rS} {k : Nat} {i x : Int} : GS0 (sA σ 1076 i x) k = GS0 σ k := by funext g; unfold GS0; rw [tr_a76]; rfl
theorem OP_a76 {σ : rS} {k : Nat} {i x : Int} : OP (sA σ 1076 i x) k = OP σ k := by funext g; unfold OP; rfl
theorem NR_a76 {σ : rS} {k : Nat} {i x : Int} : NR (sA σ 1076 i x) k = NR σ k := by funext g; unfold NR; rfl
theorem LI_a76 {σ : rS} {k : Nat} {i x : Int} : LI (sA σ 1076 i x) k = LI σ k := by funext g; unfold LI; rw [tr_a76]; rfl
theorem GS0_a77 {σ : rS} {k : Nat} {i x : Int} : GS0 (sA σ 1077 i x) k = GS0 σ k := by funext g; unfold GS0; rw [tr_a77]; rfl
theorem OP_a77 {σ : rS} {k : Nat} {i x : Int} : OP (sA σ 1077 i x) k = OP σ k := by funext g; unfold OP; rfl
theorem NR_a77 {σ : rS} {k : Nat} {i x : Int} : NR (sA σ 1077 i x) k = NR σ k := by funext g; unfold NR; rfl
theorem LI_a77 {σ : rS} {k : Nat} {i x : Int} : LI (sA σ 1077 i x) k = LI σ k := by funext g; unfold LI; rw [tr_a77]; rfl
theorem GS0_a78 {σ : rS} {k : Nat} {i x : Int} : GS0 (sA σ 1078 i x) k = GS0 σ k := by funext g; unfold GS0; rw [tr_a78]; rfl
theorem OP_a78 {σ : rS} {k : Nat} {i x : Int} : OP (sA σ 1078 i x) k = OP σ k := by funext g; unfold OP; rfl
theorem NR_a78 {σ : rS} {k : Nat} {i x : Int} : NR (sA σ 1078 i x) k = NR σ k := by funext g; unfold NR; rfl
theorem LI_a78 {σ : rS} {k : Nat} {i x : Int} : LI (sA σ 1078 i x) k = LI σ k := by funext g; unfold LI; rw [tr_a78]; rfl
theorem GS0_a79 {σ : rS} {k : Nat} {i x : Int} : GS0 (sA σ 1079 i x) k = GS0 σ k := by funext g; unfold GS0; rw [tr_a79]; rfl
theorem OP_a79 {σ : rS} {k : Nat} {i x : Int} : OP (sA σ 1079 i x) k = OP σ k := by funext g; unfold OP; rfl
theorem NR_a79 {σ : rS} {k : Nat} {i x : Int} : NR (sA σ 1079 i x) k = NR σ k := by funext g; unfold NR; rfl
theorem LI_a79 {σ : rS} {k : Nat} {i x : Int} : LI (sA σ 1079 i x) k = LI σ k := by funext g; unfold LI; rw [tr_a79]; rfl
theorem GS0_F80 {σ : rS} {k : Nat} {x : Int} : GS0 (sF σ 0 80 x) k = GS0 σ k := by funext g; unfold GS0; rw [F_sF_ne (show (7 : Nat) ≠ 80 by decide), F_sF_ne (show (12 : Nat) ≠ 80 by decide), tr_sF]
theorem OP_F80 {σ : rS} {k : Nat} {x : Int} : OP (sF σ 0 80 x) k = OP σ k := by funext g; unfold OP; rw [F_sF_ne (show (7 : Nat) ≠ 80 by decide)]
theorem NR_F80 {σ : rS} {k : Nat} {x : Int} : NR (sF σ 0 80 x) k = NR σ k := by funext g; unfold NR; rw [F_sF_ne (show (7 : Nat) ≠ 80 by decide)]
theorem LI_F80 {σ : rS} {k : Nat} {x : Int} : LI (sF σ 0 80 x) k = LI σ k := by funext g; unfold LI; rw [F_sF_ne (show (7 : Nat) ≠ 80 by decide)]; rfl
theorem GS0_F81 {σ : rS} {k : Nat} {x : Int} : GS0 (sF σ 0 81 x) k = GS0 σ k := by funext g; unfold GS0; rw [F_sF_ne (show (7 : Nat) ≠ 81 by decide), F_sF_ne (show (12 : Nat) ≠ 81 by decide), tr_sF]
theorem OP_F81 {σ : rS} {k : Nat} {x : Int} : OP (sF σ 0 81 x) k = OP σ k := by funext g; unfold OP; rw [F_sF_ne (show (7 : Nat) ≠ 81 by decide)]
theorem NR_F81 {σ : rS} {k : Nat} {x : Int} : NR (sF σ 0 81 x) k = NR σ k := by funext g; unfold NR; rw [F_sF_ne (show (7 : Nat) ≠ 81 by decide)]
theorem LI_F81 {σ : rS} {k : Nat} {x : Int} : LI (sF σ 0 81 x) k = LI σ k := by funext g; unfold LI; rw [F_sF_ne (show (7 : Nat) ≠ 81 by decide)]; rfl
theorem GS0_F82 {σ : rS} {k : Nat} {x : Int} : GS0 (sF σ 0 82 x) k = GS0 σ k := by funext g; unfold GS0; rw [F_sF_ne (show (7 : Nat) ≠ 82 by decide), F_sF_ne (show (12 : Nat) ≠ 82 by decide), tr_sF]
theorem OP_F82 {σ : rS} {k : Nat} {x : Int} : OP (sF σ 0 82 x) k = OP σ k := by funext g; unfold OP; rw [F_sF_ne (show (7 : Nat) ≠ 82 by decide)]
theorem NR_F82 {σ : rS} {k : Nat} {x : Int} : NR (sF σ 0 82 x) k = NR σ k := by funext g; unfold NR; rw [F_sF_ne (show (7 : Nat) ≠ 82 by decide)]
theorem LI_F82 {σ : rS} {k : Nat} {x : Int} : LI (sF σ 0 82 x) k = LI σ k := by funext g; unfold LI; rw [F_sF_ne (show (7 : Nat) ≠ 82 by decide)]; rfl
theorem GS0_F83 {σ : rS} {k : Nat} {x : Int} : GS0 (sF σ 0 83 x) k = GS0 σ k := by funext g; unfold GS0; rw [F_sF_ne (show (7 : Nat) ≠ 83 by decide), F_sF_ne (show (12 : Nat) ≠ 83 by decide), tr_sF]
theorem OP_F83 {σ : rS} {k : Nat} {x : Int} : OP (sF σ 0 83 x) k = OP σ k := by funext g; unfold OP; rw [F_sF_ne (show (7 : Nat) ≠ 83 by decide)]
theorem NR_F83 {σ : rS} {k : Nat} {x : Int} : NR (sF σ 0 83 x) k = NR σ k := by funext g; unfold NR; rw [F_sF_ne (show (7 : Nat) ≠ 83 by decide)]
theorem LI_F83 {σ : rS} {k : Nat} {x : Int} : LI (sF σ 0 83 x) k = LI σ k := by funext g; unfold LI; rw [F_sF_ne (show (7 : Nat) ≠ 83 by decide)]; rfl
theorem GS0_a84 {σ : rS} {k : Nat} {i x : Int} : GS0 (sA σ 1084 i x) k = GS0 σ k := by funext g; unfold GS0; rw [tr_a84]; rfl
theorem OP_a84 {σ : rS} {k : Nat} {i x : Int} : OP (sA σ 1084 i x) k = OP σ k := by funext g; unfold OP; rfl
theorem NR_a84 {σ : rS} {k : Nat} {i x : Int} : NR (sA σ 1084 i x) k = NR σ k := by funext g; unfold NR; rfl
theorem LI_a84 {σ : rS} {k : Nat} {i x : Int} : LI (sA σ 1084 i x) k = LI σ k := by funext g; unfold LI; rw [tr_a84]; rfl
theorem GS0_a85 {σ : rS} {k : Nat} {i x : Int} : GS0 (sA σ 1085 i x) k = GS0 σ k := by funext g; unfold GS0; rw [tr_a85]; rfl
theorem OP_a85 {σ : rS} {k : Nat} {i x : Int} : OP (sA σ 1085 i x) k = OP σ k := by funext g; unfold OP; rfl
theorem NR_a85 {σ : rS} {k : Nat} {i x : Int} : NR (sA σ 1085 i x) k = NR σ k := by funext g; unfold NR; rfl
theorem LI_a85 {σ : rS} {k : Nat} {i x : Int} : LI (sA σ 1085 i x) k = LI σ k := by funext g; unfold LI; rw [tr_a85]; rfl
theorem GS0_a86 {σ : rS} {k : Nat} {i x : Int} : GS0 (sA σ 1086 i x) k = GS0 σ k := by funext g; unfold GS0; rw [tr_a86]; rfl
theorem OP_a86 {σ : rS} {k : Nat} {i x : Int} : OP (sA σ 1086 i x) k = OP σ k := by funext g; unfold OP; rfl
theorem NR_a86 {σ : rS} {k : Nat} {i x : Int} : NR (sA σ 1086 i x) k = NR σ k := by funext g; unfold NR; rfl
theorem LI_a86 {σ : rS} {k : Nat} {i x : Int} : LI (sA σ 1086 i x) k = LI σ k := by funext g; unfold LI; rw [tr_a86]; rfl
theorem GS0_a87 {σ : rS} {k : Nat} {i x : Int} : GS0 (sA σ 1087 i x) k = GS0 σ k := by funext g; unfold GS0; rw [tr_a87]; rfl
theorem OP_a87 {σ : rS} {k : Nat} {i x : Int} : OP (sA σ 1087 i x) k = OP σ k := by funext g; unfold OP; rfl
theorem NR_a87 {σ : rS} {k : Nat} {i x : Int} : NR (sA σ 1087 i x) k = NR σ k := by funext g; unfold NR; rfl
theorem LI_a87 {σ : rS} {k : Nat} {i x : Int} : LI (sA σ 1087 i x) k = LI σ k := by funext g; unfold LI; rw [tr_a87]; rfl
theorem GS0_F88 {σ : rS} {k : Nat} {x : Int} : GS0 (sF σ 0 88 x) k = GS0 σ k := by funext g; unfold GS0; rw [F_sF_ne (show (7 : Nat) ≠ 88 by decide), F_sF_ne (show (12 : Nat) ≠ 88 by decide), tr_sF]
theorem OP_F88 {σ : rS} {k : Nat} {x : Int} : OP (sF σ 0 88 x) k = OP σ k := by funext g; unfold OP; rw [F_sF_ne (show (7 : Nat) ≠ 88 by decide)]
theorem NR_F88 {σ : rS} {k : Nat} {x : Int} : NR (sF σ 0 88 x) k = NR σ k := by funext g; unfold NR; rw [F_sF_ne (show (7 : Nat) ≠ 88 by decide)]
theorem LI_F88 {σ : rS} {k : Nat} {x : Int} : LI (sF σ 0 88 x) k = LI σ k := by funext g; unfold LI; rw [F_sF_ne (show (7 : Nat) ≠ 88 by decide)]; rfl
theorem GS0_a89 {σ : rS} {k : Nat} {i x : Int} : GS0 (sA σ 1089 i x) k = GS0 σ k := by funext g; unfold GS0; rw [tr_a89]; rfl
theorem OP_a89 {σ : rS} {k : Nat} {i x : Int} : OP (sA σ 1089 i x) k = OP σ k := by funext g; unfold OP; rfl
theorem NR_a89 {σ : rS} {k : Nat} {i x : Int} : NR (sA σ 1089 i x) k = NR σ k := by funext g; unfold NR; rfl
theorem LI_a89 {σ : rS} {k : Nat} {i x : Int} : LI (sA σ 1089 i x) k = LI σ k := by funext g; unfold LI; rw [tr_a89]; rfl
theorem GS0_a90 {σ : rS} {k : Nat} {i x : Int} : GS0 (sA σ 1090 i x) k = GS0 σ k := by funext g; unfold GS0; rw [tr_a90]; rfl
theorem OP_a90 {σ : rS} {k : Nat} {i x : Int} : OP (sA σ 1090 i x) k = OP σ k := by funext g; unfold OP; rfl
theorem NR_a90 {σ : rS} {k : Nat} {i x : Int} : NR (sA σ 1090 i x) k = NR σ k := by funext g; unfold NR; rfl
theorem LI_a90 {σ : rS} {k : Nat} {i x : Int} : LI (sA σ 1090 i x) k = LI σ k := by funext g; unfold LI; rw [tr_a90]; rfl
theorem GS0_a91 {σ : rS} {k : Nat} {i x : Int} : GS0 (sA σ 1091 i x) k = GS0 σ k := by funext g; unfold GS0; rw [tr_a91]; rfl
theorem OP_a91 {σ : rS} {k : Nat} {i x : Int} : OP (sA σ 1091 i x) k = OP σ k := by funext g; unfold OP; rfl
theorem NR_a91 {σ : rS} {k : Nat} {i x : Int} : NR (sA σ 1091 i x) k = NR σ k := by funext g; unfold NR; rfl
theorem LI_a91 {σ : rS} {k : Nat} {i x : Int} : LI (sA σ 1091 i x) k = LI σ k := by funext g; unfold LI; rw [tr_a91]; rfl
theorem GS0_F92 {σ : rS} {k : Nat} {x : Int} : GS0 (sF σ 0 92 x) k = GS0 σ k := by funext g; unfold GS0; rw [F_sF_ne (show (7 : Nat) ≠ 92 by decide), F_sF_ne (show (12 : Nat) ≠ 92 by decide), tr_sF]
theorem OP_F92 {σ : rS} {k : Nat} {x : Int} : OP (sF σ 0 92 x) k = OP σ k := by funext g; unfold OP; rw [F_sF_ne (show (7 : Nat) ≠ 92 by decide)]
theorem NR_F92 {σ : rS} {k : Nat} {x : Int} : NR (sF σ 0 92 x) k = NR σ k := by funext g; unfold NR; rw [F_sF_ne (show (7 : Nat) ≠ 92 by decide)]
theorem LI_F92 {σ : rS} {k : Nat} {x : Int} : LI (sF σ 0 92 x) k = LI σ k := by funext g; unfold LI; rw [F_sF_ne (show (7 : Nat) ≠ 92 by decide)]; rfl
theorem GS0_a93 {σ : rS} {k : Nat} {i x : Int} : GS0 (sA σ 1093 i x) k = GS0 σ k := by funext g; unfold GS0; rw [tr_a93]; rfl
theorem OP_a93 {σ : rS} {k : Nat} {i x : Int} : OP (sA σ 1093 i x) k = OP σ k := by funext g; unfold OP; rfl
theorem NR_a93 {σ : rS} {k : Nat} {i x : Int} : NR (sA σ 1093 i x) k = NR σ k := by funext g; unfold NR; rfl
theorem LI_a93 {σ : rS} {k : Nat} {i x : Int} : LI (sA σ 1093 i x) k = LI σ k := by funext g; unfold LI; rw [tr_a93]; rfl
theorem GS0_F94 {σ : rS} {k : Nat} {x : Int} : GS0 (sF σ 0 94 x) k = GS0 σ k := by funext g; unfold GS0; rw [F_sF_ne (show (7 : Nat) ≠ 94 by decide), F_sF_ne (show (12 : Nat) ≠ 94 by decide), tr_sF]
theorem OP_F94 {σ : rS} {k : Nat} {x : Int} : OP (sF σ 0 94 x) k = OP σ k := by funext g; unfold OP; rw [F_sF_ne (show (7 : Nat) ≠ 94 by decide)]
theorem NR_F94 {σ : rS} {k : Nat} {x : Int} : NR (sF σ 0 94 x) k = NR σ k := by funext g; unfold NR; rw [F_sF_ne (show (7 : Nat) ≠ 94 by decide)]
theorem LI_F94 {σ : rS} {k : Nat} {x : Int} : LI (sF σ 0 94 x) k = LI σ k := by funext g; unfold LI; rw [F_sF_ne (show (7 : Nat) ≠ 94 by decide)]; rfl
theorem GS0_F96 {σ : rS} {k : Nat} {x : Int} : GS0 (sF σ 0 96 x) k = GS0 σ k := by funext g; unfold GS0; rw [F_sF_ne (show (7 : Nat) ≠ 96 by decide), F_sF_ne (show (12 : Nat) ≠ 96 by decide), tr_sF]
theorem OP_F96 {σ : rS} {k : Nat} {x : Int} : OP (sF σ 0 96 x) k = OP σ k := by funext g; unfold OP; rw [F_sF_ne (show (7 : Nat) ≠ 96 by decide)]
theorem NR_F96 {σ : rS} {k : Nat} {x : Int} : NR (sF σ 0 96 x) k = NR σ k := by funext g; unfold NR; rw [F_sF_ne (show (7 : Nat) ≠ 96 by decide)]
theorem LI_F96 {σ : rS} {k : Nat} {x : Int} : LI (sF σ 0 96 x) k = LI σ k := by funext g; unfold LI; rw [F_sF_ne (show (7 : Nat) ≠ 96 by decide)]; rfl
theorem GS0_F97 {σ : rS} {k : Nat} {x : Int} : GS0 (sF σ 0 97 x) k = GS0 σ k := by funext g; unfold GS0; rw [F_sF_ne (show (7 : Nat) ≠ 97 by decide), F_sF_ne (show (12 : Nat) ≠ 97 by decide), tr_sF]
theorem OP_F97 {σ : rS} {k : Nat} {x : Int} : OP (sF σ 0 97 x) k = OP σ k := by funext g; unfold OP; rw [F_sF_ne (show (7 : Nat) ≠ 97 by decide)]
theorem NR_F97 {σ : rS} {k : Nat} {x : Int} : NR (sF σ 0 97 x) k = NR σ k := by funext g; unfold NR; rw [F_sF_ne (show (7 : Nat) ≠ 97 by decide)]
theorem LI_F97 {σ : rS} {k : Nat} {x : Int} : LI (sF σ 0 97 x) k = LI σ k := by funext g; unfold LI; rw [F_sF_ne (show (7 : Nat) ≠ 97 by decide)]; rfl
theorem GS0_F98 {σ : rS} {k : Nat} {x : Int} : GS0 (sF σ 0 98 x) k = GS0 σ k := by funext g; unfold GS0; rw [F_sF_ne (show (7 : Nat) ≠ 98 by decide), F_sF_ne (show (12 : Nat) ≠ 98 by decide), tr_sF]
theorem OP_F98 {σ : rS} {k : Nat} {x : Int} : OP (sF σ 0 98 x) k = OP σ k := by funext g; unfold OP; rw [F_sF_ne (show (7 : Nat) ≠ 98 by decide)]
theorem NR_F98 {σ : rS} {k : Nat} {x : Int} : NR (sF σ 0 98 x) k = NR σ k := by funext g; unfold NR; rw [F_sF_ne (show (7 : Nat) ≠ 98 by decide)]
theorem LI_F98 {σ : rS} {k : Nat} {x : Int} : LI (sF σ 0 98 x) k = LI σ k := by funext g; unfold LI; rw [F_sF_ne (show (7 : Nat) ≠ 98 by decide)]; rfl
theorem GS0_F99 {σ : rS} {k : Nat} {x : Int} : GS0 (sF σ 0 99 x) k = GS0 σ k := by funext g; unfold GS0; rw [F_sF_ne (show (7 : Nat) ≠ 99 by decide), F_sF_ne (show (12 : Nat) ≠ 99 by decide), tr_sF]
theorem OP_F99 {σ : rS} {k : Nat} {x : Int} : OP (sF σ 0 99 x) k = OP σ k := by funext g; unfold OP; rw [F_sF_ne (show (7 : Nat) ≠ 99 by decide)]
theorem NR_F99 {σ : rS} {k : Nat} {x : Int} : NR (sF σ 0 99 x) k = NR σ k := by funext g; unfold NR; rw [F_sF_ne (show (7 : Nat) ≠ 99 by decide)]
theorem LI_F99 {σ : rS} {k : Nat} {x : Int} : LI (sF σ 0 99 x) k = LI σ k := by funext g; unfold LI; rw [F_sF_ne (show (7 : Nat) ≠ 99 by decide)]; rfl
theorem GS0_F100 {σ : rS} {k : Nat} {x : Int} : GS0 (sF σ 0 100 x) k = GS0 σ k := by funext g; unfold GS0; rw [F_sF_ne (show (7 : Nat) ≠ 100 by decide), F_sF_ne (show (12 : Nat) ≠ 100 by decide), tr_sF]
theorem OP_F100 {σ : rS} {k : Nat} {x : Int} : OP (sF σ 0 100 x) k = OP σ k := by funext g; unfold OP; rw [F_sF_ne (show (7 : Nat) ≠ 100 by decide)]
theorem NR_F100 {σ : rS} {k : Nat} {x : Int} : NR (sF σ 0 100 x) k = NR σ k := by funext g; unfold NR; rw [F_sF_ne (show (7 : Nat) ≠ 100 by decide)]
theorem LI_F100 {σ : rS} {k : Nat} {x : Int} : LI (sF σ 0 100 x) k = LI σ k := by funext g; unfold LI; rw [F_sF_ne (show (7 : Nat) ≠ 100 by decide)]; rfl
theorem GS0_F101 {σ : rS} {k : Nat} {x : Int} : GS0 (sF σ 0 101 x) k = GS0 σ k := by funext g; unfold GS0; rw [F_sF_ne (show (7 : Nat) ≠ 101 by decide), F_sF_ne (show (12 : Nat) ≠ 101 by decide), tr_sF]
theorem OP_F101 {σ : rS} {k : Nat} {x : Int} : OP (sF σ 0 101 x) k = OP σ k := by funext g; unfold OP; rw [F_sF_ne (show (7 : Nat) ≠ 101 by decide)]
theorem NR_F101 {σ : rS} {k : Nat} {x : Int} : NR (sF σ 0 101 x) k = NR σ k := by funext g; unfold NR; rw [F_sF_ne (show (7 : Nat) ≠ 101 by decide)]
theorem LI_F101 {σ : rS} {k : Nat} {x : Int} : LI (sF σ 0 101 x) k = LI σ k := by funext g; unfold LI; rw [F_sF_ne (show (7 : Nat) ≠ 101 by decide)]; rfl
theorem GS0_a102 {σ : rS} {k : Nat} {i x : Int} : GS0 (sA σ 1102 i x) k = GS0 σ k := by funext g; unfold GS0; rw [tr_a102]; rfl
theorem OP_a102 {σ : rS} {k : Nat} {i x : Int} : OP (sA σ 1102 i x) k = OP σ k := by funext g; unfold OP; rfl
theorem NR_a102 {σ : rS} {k : Nat} {i x : Int} : NR (sA σ 1102 i x) k = NR σ k := by funext g; unfold NR; rfl
theorem LI_a102 {σ : rS} {k : Nat} {i x : Int} : LI (sA σ 1102 i x) k = LI σ k := by funext g; unfold LI; rw [tr_a102]; rfl
theorem GS0_F103 {σ : rS} {k : Nat} {x : Int} : GS0 (sF σ 0 103 x) k = GS0 σ k := by funext g; unfold GS0; rw [F_sF_ne (show (7 : Nat) ≠ 103 by decide), F_sF_ne (show (12 : Nat) ≠ 103 by decide), tr_sF]
theorem OP_F103 {σ : rS} {k : Nat} {x : Int} : OP (sF σ 0 103 x) k = OP σ k := by funext g; unfold OP; rw [F_sF_ne (show (7 : Nat) ≠ 103 by decide)]
theorem NR_F103 {σ : rS} {k : Nat} {x : Int} : NR (sF σ 0 103 x) k = NR σ k := by funext g; unfold NR; rw [F_sF_ne (show (7 : Nat) ≠ 103 by decide)]
theorem LI_F103 {σ : rS} {k : Nat} {x : Int} : LI (sF σ 0 103 x) k = LI σ k := by funext g; unfold LI; rw [F_sF_ne (show (7 : Nat) ≠ 103 by decide)]; rfl
theorem GS0_F104 {σ : rS} {k : Nat} {x : Int} : GS0 (sF σ 0 104 x) k = GS0 σ k := by funext g; unfold GS0; rw [F_sF_ne (show (7 : Nat) ≠ 104 by decide), F_sF_ne (show (12 : Nat) ≠ 104 by decide), tr_sF]
theorem OP_F104 {σ : rS} {k : Nat} {x : Int} : OP (sF σ 0 104 x) k = OP σ k := by funext g; unfold OP; rw [F_sF_ne (show (7 : Nat) ≠ 104 by decide)]
theorem NR_F104 {σ : rS} {k : Nat} {x : Int} : NR (sF σ 0 104 x) k = NR σ k := by funext g; unfold NR; rw [F_sF_ne (show (7 : Nat) ≠ 104 by decide)]
theorem LI_F104 {σ : rS} {k : Nat} {x : Int} : LI (sF σ 0 104 x) k = LI σ k := by funext g; unfold LI; rw [F_sF_ne (show (7 : Nat) ≠ 104 by decide)]; rfl
theorem GS0_a105 {σ : rS} {k : Nat} {i x : Int} : GS0 (sA σ 1105 i x) k = GS0 σ k := by funext g; unfold GS0; rw [tr_a105]; rfl
theorem OP_a105 {σ : rS} {k : Nat} {i x : Int} : OP (sA σ 1105 i x) k = OP σ k := by funext g; unfold OP; rfl
theorem NR_a105 {σ : rS} {k : Nat} {i x : Int} : NR (sA σ 1105 i x) k = NR σ k := by funext g; unfold NR; rfl
theorem LI_a105 {σ : rS} {k : Nat} {i x : Int} : LI (sA σ 1105 i x) k = LI σ k := by funext g; unfold LI; rw [tr_a105]; rfl
theorem GS0_a106 {σ : rS} {k : Nat} {i x : Int} : GS0 (sA σ 1106 i x) k = GS0 σ k := by funext g; unfold GS0; rw [tr_a106]; rfl
theorem OP_a106 {σ : rS} {k : Nat} {i x : Int} : OP (sA σ 1106 i x) k = OP σ k := by funext g; unfold OP; rfl
theorem NR_a106 {σ : rS} {k : Nat} {i x : Int} : NR (sA σ 1106 i x) k = NR σ k := by funext g; unfold NR; rfl
theorem LI_a106 {σ : rS} {k : Nat} {i x : Int} : LI (sA σ 1106 i x) k = LI σ k := by funext g; unfold LI; rw [tr_a106]; rfl
theorem GS0_a107 {σ : rS} {k : Nat} {i x : Int} : GS0 (sA σ 1107 i x) k = GS0 σ k := by funext g; unfold GS0; rw [tr_a107]; rfl
theorem OP_a107 {σ : rS} {k : Nat} {i x : Int} : OP (sA σ 1107 i x) k = OP σ k := by funext g; unfold OP; rfl
theorem NR_a107 {σ : rS} {k : Nat} {i x : Int} : NR (sA σ 1107 i x) k = NR σ k := by funext g; unfold NR; rfl
theorem LI_a107 {σ : rS} {k : Nat} {i x : Int} : LI (sA σ 1107 i x) k = LI σ k := by funext g; unfold LI; rw [tr_a107]; rfl
theorem GS0_a108 {σ : rS} {k : Nat} {i x : Int} : GS0 (sA σ 1108 i x) k = GS0 σ k := by funext g; unfold GS0; rw [tr_a108]; rfl
theorem OP_a108 {σ : rS} {k : Nat} {i x : Int} : OP (sA σ 1108 i x) k = OP σ k := by funext g; unfold OP; rfl
theorem NR_a108 {σ : rS} {k : Nat} {i x : Int} : NR (sA σ 1108 i x) k = NR σ k := by funext g; unfold NR; rfl
theorem LI_a108 {σ : rS} {k : Nat} {i x : Int} : LI (sA σ 1108 i x) k = LI σ k := by funext g; unfold LI; rw [tr_a108]; rfl
theorem GS0_a109 {σ : rS} {k : Nat} {i x : Int} : GS0 (sA σ 1109 i x) k = GS0 σ k := by funext g; unfold GS0; rw [tr_a109]; rfl
theorem OP_a109 {σ : rS} {k : Nat} {i x : Int} : OP (sA σ 1109 i x) k = OP σ k := by funext g; unfold OP; rfl
theorem NR_a109 {σ : rS} {k : Nat} {i x : Int} : NR (sA σ 1109 i x) k = NR σ k := by funext g; unfold NR; rfl
theorem LI_a109 {σ : rS} {k : Nat} {i x : Int} : LI (sA σ 1109 i x) k = LI σ k := by funext g; unfold LI; rw [tr_a109]; rfl
theorem GS0_a110 {σ : rS} {k : Nat} {i x : Int} : GS0 (sA σ 1110 i x) k = GS0 σ k := by funext g; unfold GS0; rw [tr_a110]; rfl
theorem OP_a110 {σ : rS} {k : Nat} {i x : Int} : OP (sA σ 1110 i x) k = OP σ k := by funext g; unfold OP; rfl
theorem NR_a110 {σ : rS} {k : Nat} {i x : Int} : NR (sA σ 1110 i x) k = NR σ k := by funext g; unfold NR; rfl
theorem LI_a110 {σ : rS} {k : Nat} {i x : Int} : LI (sA σ 1110 i x) k = LI σ k := by funext g; unfold LI; rw [tr_a110]; rfl
theorem GS0_a111 {σ : rS} {k : Nat} {i x : Int} : GS0 (sA σ 1111 i x) k = GS0 σ k := by funext g; unfold GS0; rw [tr_a111]; rfl
theorem OP_a111 {σ : rS} {k : Nat} {i x : Int} : OP (sA σ 1111 i x) k = OP σ k := by funext g; unfold OP; rfl
theorem NR_a111 {σ : rS} {k : Nat} {i x : Int} : NR (sA σ 1111 i x) k = NR σ k := by funext g; unfold NR; rfl
theorem LI_a111 {σ : rS} {k : Nat} {i x : Int} : LI (sA σ 1111 i x) k = LI σ k := by funext g; unfold LI; rw [tr_a111]; rfl
theorem GS0_F112 {σ : rS} {k : Nat} {x : Int} : GS0 (sF σ 0 112 x) k = GS0 σ k := by funext g; unfold GS0; rw [F_sF_ne (show (7 : Nat) ≠ 112 by decide), F_sF_ne (show (12 : Nat) ≠ 112 by decide), tr_sF]
theorem OP_F112 {σ : rS} {k : Nat} {x : Int} : OP (sF σ 0 112 x) k = OP σ k := by funext g; unfold OP; rw [F_sF_ne (show (7 : Nat) ≠ 112 by decide)]
theorem NR_F112 {σ : rS} {k : Nat} {x : Int} : NR (sF σ 0 112 x) k = NR σ k := by funext g; unfold NR; rw [F_sF_ne (show (7 : Nat) ≠ 112 by decide)]
theorem LI_F112 {σ : rS} {k : Nat} {x : Int} : LI (sF σ 0 112 x) k = LI σ k := by funext g; unfold LI; rw [F_sF_ne (show (7 : Nat) ≠ 112 by decide)]; rfl
theorem GS0_F113 {σ : rS} {k : Nat} {x : Int} : GS0 (sF σ 0 113 x) k = GS0 σ k := by funext g; unfold GS0; rw [F_sF_ne (show (7 : Nat) ≠ 113 by decide), F_sF_ne (show (12 : Nat) ≠ 113 by decide), tr_sF]
theorem OP_F113 {σ : rS} {k : Nat} {x : Int} : OP (sF σ 0 113 x) k = OP σ k := by funext g; unfold OP; rw [F_sF_ne (show (7 : Nat) ≠ 113 by decide)]
theorem NR_F113 {σ : rS} {k : Nat} {x : Int} : NR (sF σ 0 113 x) k = NR σ k := by funext g; unfold NR; rw [F_sF_ne (show (7 : Nat) ≠ 113 by decide)]
theorem LI_F113 {σ : rS} {k : Nat} {x : Int} : LI (sF σ 0 113 x) k = LI σ k := by funext g; unfold LI; rw [F_sF_ne (show (7 : Nat) ≠ 113 by decide)]; rfl
theorem GS0_a114 {σ : rS} {k : Nat} {i x : Int} : GS0 (sA σ 1114 i x) k = GS0 σ k := by funext g; unfold GS0; rw [tr_a114]; rfl
theorem OP_a114 {σ : rS} {k : Nat} {i x : Int} : OP (sA σ 1114 i x) k = OP σ k := by funext g; unfold OP; rfl
theorem NR_a114 {σ : rS} {k : Nat} {i x : Int} : NR (sA σ 1114 i x) k = NR σ k := by funext g; unfold NR; rfl
theorem LI_a114 {σ : rS} {k : Nat} {i x : Int} : LI (sA σ 1114 i x) k = LI σ k := by funext g; unfold LI; rw [tr_a114]; rfl
theorem GS0_a115 {σ : rS} {k : Nat} {i x : Int} : GS0 (sA σ 1115 i x) k = GS0 σ k := by funext g; unfold GS0; rw [tr_a115]; rfl
theorem OP_a115 {σ : rS} {k : Nat} {i x : Int} : OP (sA σ 1115 i x) k = OP σ k := by funext g; unfold OP; rfl
theorem NR_a115 {σ : rS} {k : Nat} {i x : Int} : NR (sA σ 1115 i x) k = NR σ k := by funext g; unfold NR; rfl
theorem LI_a115 {σ : rS} {k : Nat} {i x : Int} : LI (sA σ 1115 i x) k = LI σ k := by funext g; unfold LI; rw [tr_a115]; rfl
theorem GS0_a116 {σ : rS} {k : Nat} {i x : Int} : GS0 (sA σ 1116 i x) k = GS0 σ k := by funext g; unfold GS0; rw [tr_a116]; rfl
theorem OP_a116 {σ : rS} {k : Nat} {i x : Int} : OP (sA σ 1116 i x) k = OP σ k := by funext g; unfold OP; rfl
theorem NR_a116 {σ : rS} {k : Nat} {i x : Int} : NR (sA σ 1116 i x) k = NR σ k := by funext g; unfold NR; rfl
theorem LI_a116 {σ : rS} {k : Nat} {i x : Int} : LI (sA σ 1116 i x) k = LI σ k := by funext g; unfold LI; rw [tr_a116]; rfl
theorem GS0_a117 {σ : rS} {k : Nat} {i x : Int} : GS0 (sA σ 1117 i x) k = GS0 σ k := by funext g; unfold GS0; rw [tr_a117]; rfl
theorem OP_a117 {σ : rS} {k : Nat} {i x : Int} : OP (sA σ 1117 i x) k = OP σ k := by funext g; unfold OP; rfl
theorem NR_a117 {σ : rS} {k : Nat} {i x : Int} : NR (sA σ 1117 i x) k = NR σ k := by funext g; unfold NR; rfl
theorem LI_a117 {σ : rS} {k : Nat} {i x : Int} : LI (sA σ 1117 i x) k = LI σ k := by funext g; unfold LI; rw [tr_a117]; rfl
theorem GS0_F118 {σ : rS} {k : Nat} {x : Int} : GS0 (sF σ 0 118 x) k = GS0 σ k := by funext g; unfold GS0; rw [F_sF_ne (show (7 : Nat) ≠ 118 by decide), F_sF_ne (show (12 : Nat) ≠ 118 by decide), tr_sF]
theorem OP_F118 {σ : rS} {k : Nat} {x : Int} : OP (sF σ 0 118 x) k = OP σ k := by funext g; unfold OP; rw [F_sF_ne (show (7 : Nat) ≠ 118 by decide)]
theorem NR_F118 {σ : rS} {k : Nat} {x : Int} : NR (sF σ 0 118 x) k = NR σ k := by funext g; unfold NR; rw [F_sF_ne (show (7 : Nat) ≠ 118 by decide)]
theorem LI_F118 {σ : rS} {k : Nat} {x : Int} : LI (sF σ 0 118 x) k = LI σ k := by funext g; unfold LI; rw [F_sF_ne (show (7 : Nat) ≠ 118 by decide)]; rfl
theorem GS0_F119 {σ : rS} {k : Nat} {x : Int} : GS0 (sF σ 0 119 x) k = GS0 σ k := by funext g; unfold GS0; rw [F_sF_ne (show (7 : Nat) ≠ 119 by decide), F_sF_ne (show (12 : Nat) ≠ 119 by decide), tr_sF]
theorem OP_F119 {σ : rS} {k : Nat} {x : Int} : OP (sF σ 0 119 x) k = OP σ k := by funext g; unfold OP; rw [F_sF_ne (show (7 : Nat) ≠ 119 by decide)]
theorem NR_F119 {σ : rS} {k : Nat} {x : Int} : NR (sF σ 0 119 x) k = NR σ k := by funext g; unfold NR; rw [F_sF_ne (show (7 : Nat) ≠ 119 by decide)]
theorem LI_F119 {σ : rS} {k : Nat} {x : Int} : LI (sF σ 0 119 x) k = LI σ k := by funext g; unfold LI; rw [F_sF_ne (show (7 : Nat) ≠ 119 by decide)]; rfl
theorem GS0_a120 {σ : rS} {k : Nat} {i x : Int} : GS0 (sA σ 1120 i x) k = GS0 σ k := by funext g; unfold GS0; rw [tr_a120]; rfl
theorem OP_a120 {σ : rS} {k : Nat} {i x : Int} : OP (sA σ 1120 i x) k = OP σ k := by funext g; unfold OP; rfl
theorem NR_a120 {σ : rS} {k : Nat} {i x : Int} : NR (sA σ 1120 i x) k = NR σ k := by funext g; unfold NR; rfl
theorem LI_a120 {σ : rS} {k : Nat} {i x : Int} : LI (sA σ 1120 i x) k = LI σ k := by funext g; unfold LI; rw [tr_a120]; rfl
theorem GS0_a121 {σ : rS} {k : Nat} {i x : Int} : GS0 (sA σ 1121 i x) k = GS0 σ k := by funext g; unfold GS0; rw [tr_a121]; rfl
theorem OP_a121 {σ : rS} {k : Nat} {i x : Int} : OP (sA σ 1121 i x) k = OP σ k := by funext g; unfold OP; rfl
theorem NR_a121 {σ : rS} {k : Nat} {i x : Int} : NR (sA σ 1121 i x) k = NR σ k := by funext g; unfold NR; rfl
theorem LI_a121 {σ : rS} {k : Nat} {i x : Int} : LI (sA σ 1121 i x) k = LI σ k := by funext g; unfold LI; rw [tr_a121]; rfl
theorem GS0_F122 {σ : rS} {k : Nat} {x : Int} : GS0 (sF σ 0 122 x) k = GS0 σ k := by funext g; unfold GS0; rw [F_sF_ne (show (7 : Nat) ≠ 122 by decide), F_sF_ne (show (12 : Nat) ≠ 122 by decide), tr_sF]
theorem OP_F122 {σ : rS} {k : Nat} {x : Int} : OP (sF σ 0 122 x) k = OP σ k := by funext g; unfold OP; rw [F_sF_ne (show (7 : Nat) ≠ 122 by decide)]
theorem NR_F122 {σ : rS} {k : Nat} {x : Int} : NR (sF σ 0 122 x) k = NR σ k := by funext g; unfold NR; rw [F_sF_ne (show (7 : Nat) ≠ 122 by decide)]
theorem LI_F122 {σ : rS} {k : Nat} {x : Int} : LI (sF σ 0 122 x) k = LI σ k := by funext g; unfold LI; rw [F_sF_ne (show (7 : Nat) ≠ 122 by decide)]; rfl
theorem GS0_F123 {σ : rS} {k : Nat} {x : Int} : GS0 (sF σ 0 123 x) k = GS0 σ k := by funext g; unfold GS0; rw [F_sF_ne (show (7 : Nat) ≠ 123 by decide), F_sF_ne (show (12 : Nat) ≠ 123 by decide), tr_sF]
theorem OP_F123 {σ : rS} {k : Nat} {x : Int} : OP (sF σ 0 123 x) k = OP σ k := by funext g; unfold OP; rw [F_sF_ne (show (7 : Nat) ≠ 123 by decide)]
theorem NR_F123 {σ : rS} {k : Nat} {x : Int} : NR (sF σ 0 123 x) k = NR σ k := by funext g; unfold NR; rw [F_sF_ne (show (7 : Nat) ≠ 123 by decide)]
theorem LI_F123 {σ : rS} {k : Nat} {x : Int} : LI (sF σ 0 123 x) k = LI σ k := by funext g; unfold LI; rw [F_sF_ne (show (7 : Nat) ≠ 123 by decide)]; rfl
theorem GS0_a124 {σ : rS} {k : Nat} {i x : Int} : GS0 (sA σ 1124 i x) k = GS0 σ k := by funext g; unfold GS0; rw [tr_a124]; rfl
theorem OP_a124 {σ : rS} {k : Nat} {i x : Int} : OP (sA σ 1124 i x) k = OP σ k := by funext g; unfold OP; rfl
theorem NR_a124 {σ : rS} {k : Nat} {i x : Int} : NR (sA σ 1124 i x) k = NR σ k := by funext g; unfold NR; rfl
theorem LI_a124 {σ : rS} {k : Nat} {i x : Int} : LI (sA σ 1124 i x) k = LI σ k := by funext g; unfold LI; rw [tr_a124]; rfl
theorem GS0_a125 {σ : rS} {k : Nat} {i x : Int} : GS0 (sA σ 1125 i x) k = GS0 σ k := by funext g; unfold GS0; rw [tr_a125]; rfl
theorem OP_a125 {σ : rS} {k : Nat} {i x : Int} : OP (sA σ 1125 i x) k = OP σ k := by funext g; unfold OP; rfl
theorem NR_a125 {σ : rS} {k : Nat} {i x : Int} : NR (sA σ 1125 i x) k = NR σ k := by funext g; unfold NR; rfl
theorem LI_a125 {σ : rS} {k : Nat} {i x : Int} : LI (sA σ 1125 i x) k = LI σ k := by funext g; unfold LI; rw [tr_a125]; rfl
theorem GS0_a126 {σ : rS} {k : Nat} {i x : Int} : GS0 (sA σ 1126 i x) k = GS0 σ k := by funext g; unfold GS0; rw [tr_a126]; rfl
theorem OP_a126 {σ : rS} {k : Nat} {i x : Int} : OP (sA σ 1126 i x) k = OP σ k := by funext g; unfold OP; rfl
theorem NR_a126 {σ : rS} {k : Nat} {i x : Int} : NR (sA σ 1126 i x) k = NR σ k := by funext g; unfold NR; rfl
theorem LI_a126 {σ : rS} {k : Nat} {i x : Int} : LI (sA σ 1126 i x) k = LI σ k := by funext g; unfold LI; rw [tr_a126]; rfl
theorem GS0_a127 {σ : rS} {k : Nat} {i x : Int} : GS0 (sA σ 1127 i x) k = GS0 σ k := by funext g; unfold GS0; rw [tr_a127]; rfl
theorem OP_a127 {σ : rS} {k : Nat} {i x : Int} : OP (sA σ 1127 i x) k = OP σ k := by funext g; unfold OP; rfl
theorem NR_a127 {σ : rS} {k : Nat} {i x : Int} : NR (sA σ 1127 i x) k = NR σ k := by funext g; unfold NR; rfl
theorem LI_a127 {σ : rS} {k : Nat} {i x : Int} : LI (sA σ 1127 i x) k = LI σ k := by funext g; unfold LI; rw [tr_a127]; rfl
theorem GS0_a128 {σ : rS} {k : Nat} {i x : Int} : GS0 (sA σ 1128 i x) k = GS0 σ k := by funext g; unfold GS0; rw [tr_a128]; rfl
theorem OP_a128 {σ : rS} {k : Nat} {i x : Int} : OP (sA σ 1128 i x) k = OP σ k := by funext g; unfold OP; rfl
theorem NR_a128 {σ : rS} {k : Nat} {i x : Int} : NR (sA σ 1128 i x) k = NR σ k := by funext g; unfold NR; rfl
theorem LI_a128 {σ : rS} {k : Nat} {i x : Int} : LI (sA σ 1128 i x) k = LI σ k := by funext g; unfold LI; rw [tr_a128]; rfl
theorem GS0_a129 {σ : rS} {k : Nat} {i x : Int} : GS0 (sA σ 1129 i x) k = GS0 σ k := by funext g; unfold GS0; rw [tr_a129]; rfl
theorem OP_a129 {σ : rS} {k : Nat} {i x : Int} : OP (sA σ 1129 i x) k = OP σ k := by funext g; unfold OP; rfl
theorem NR_a129 {σ : rS} {k : Nat} {i x : Int} : NR (sA σ 1129 i x) k = NR σ k := by funext g; unfold NR; rfl
theorem LI_a129 {σ : rS} {k : Nat} {i x : Int} : LI (sA σ 1129 i x) k = LI σ k := by funext g; unfold LI; rw [tr_a129]; rfl
theorem GS0_F135 {σ : rS} {k : Nat} {x : Int} : GS0 (sF σ 0 135 x) k = GS0 σ k := by funext g; unfold GS0; rw [F_sF_ne (show (7 : Nat) ≠ 135 by decide), F_sF_ne (show (12 : Nat) ≠ 135 by decide), tr_sF]
theorem OP_F135 {σ : rS} {k : Nat} {x : Int} : OP (sF σ 0 135 x) k = OP σ k := by funext g; unfold OP; rw [F_sF_ne (show (7 : Nat) ≠ 135 by decide)]
theorem NR_F135 {σ : rS} {k : Nat} {x : Int} : NR (sF σ 0 135 x) k = NR σ k := by funext g; unfold NR; rw [F_sF_ne (show (7 : Nat) ≠ 135 by decide)]
theorem LI_F135 {σ : rS} {k : Nat} {x : Int} : LI (sF σ 0 135 x) k = LI σ k := by funext g; unfold LI; rw [F_sF_ne (show (7 : Nat) ≠ 135 by decide)]; rfl
theorem GS0_a136 {σ : rS} {k : Nat} {i x : Int} : GS0 (sA σ 1136 i x) k = GS0 σ k := by funext g; unfold GS0; rw [tr_a136]; rfl
theorem OP_a136 {σ : rS} {k : Nat} {i x : Int} : OP (sA σ 1136 i x) k = OP σ k := by funext g; unfold OP; rfl
theorem NR_a136 {σ : rS} {k : Nat} {i x : Int} : NR (sA σ 1136 i x) k = NR σ k := by funext g; unfold NR; rfl
theorem LI_a136 {σ : rS} {k : Nat} {i x : Int} : LI (sA σ 1136 i x) k = LI σ k := by funext g; unfold LI; rw [tr_a136]; rfl
theorem GS0_F137 {σ : rS} {k : Nat} {x : Int} : GS0 (sF σ 0 137 x) k = GS0 σ k := by funext g; unfold GS0; rw [F_sF_ne (show (7 : Nat) ≠ 137 by decide), F_sF_ne (show (12 : Nat) ≠ 137 by decide), tr_sF]
theorem OP_F137 {σ : rS} {k : Nat} {x : Int} : OP (sF σ 0 137 x) k = OP σ k := by funext g; unfold OP; rw [F_sF_ne (show (7 : Nat) ≠ 137 by decide)]
theorem NR_F137 {σ : rS} {k : Nat} {x : Int} : NR (sF σ 0 137 x) k = NR σ k := by funext g; unfold NR; rw [F_sF_ne (show (7 : Nat) ≠ 137 by decide)]
theorem LI_F137 {σ : rS} {k : Nat} {x : Int} : LI (sF σ 0 137 x) k = LI σ k := by funext g; unfold LI; rw [F_sF_ne (show (7 : Nat) ≠ 137 by decide)]; rfl
theorem GS0_a138 {σ : rS} {k : Nat} {i x : Int} : GS0 (sA σ 1138 i x) k = GS0 σ k := by funext g; unfold GS0; rw [tr_a138]; rfl
theorem OP_a138 {σ : rS} {k : Nat} {i x : Int} : OP (sA σ 1138 i x) k = OP σ k := by funext g; unfold OP; rfl
theorem NR_a138 {σ : rS} {k : Nat} {i x : Int} : NR (sA σ 1138 i x) k = NR σ k := by funext g; unfold NR; rfl
theorem LI_a138 {σ : rS} {k : Nat} {i x : Int} : LI (sA σ 1138 i x) k = LI σ k := by funext g; unfold LI; rw [tr_a138]; rfl
theorem GI.c3 {N nm it : Int} {K : Nat} {t t' g : Nat → Int → Int} (G : GI N nm t g) (hK : g 0 it = (K : Int)) (hk3 : tb 3 K = 0 ∧ K ≠ 33 ∧ K ≠ 6 ∧ K ≠ 7) (ht : ∀ f i, f < 6 → 0 < i → i < N → (f ≠ 3 ∨ i ≠ it) → t' f i = t f i) : GI N nm t' g := by
  intro m h0 h1
  obtain ⟨s, u, c, o, x, n, z⟩ := G m h0 h1
  have e := fun f hf (h3 : f ≠ 3) => ht f m hf h0 h1 (Or.inl h3)
  have e3 : g 0 m = 33 ∨ g 0 m = 6 ∨ g 0 m = 7 ∨ g 0 m = 41 → t' 3 m = t 3 m := fun q => ht 3 m (by decide) h0 h1 (Or.inr (fun E => by
    subst E
    have := hk3.1
    rcases q with q | q | q | q
    · omega
    · omega
    · omega
    · have : K = 41 := by omega
      subst this; exact absurd hk3.1 (by decide)))
  refine ⟨?_, u, ?_, ?_, ?_, ?_, ?_⟩
  · unfold gS at *
    rw [e 0 (by decide) (by decide), e 1 (by decide) (by decide), e 2 (by decide) (by decide), e 4 (by decide) (by decide)]
    obtain ⟨s1, s2, s3, s4, s5, s6, s7, s8, s9, s10, s11, s12, s13, s14, s15, s16, s17⟩ := s
    exact ⟨s1, s2, s3, s4, s5, s6, s7, s8, s9, s10, s11, s12, s13, s14, fun h => by rw [e3 (Or.inl h)]; exact s15 h, fun h => by rw [e3 (by rcases h with h | h; exact Or.inr (Or.inl h); exact Or.inr (Or.inr (Or.inl h)))]; exact s16 h, s17⟩
  · intro f K' hf hK'
    have h13 := tb_13 hf
    by_cases f3 : f = 3
    · subst f3
      by_cases hm : m = it
      · subst hm
        have : K = K' := by omega
        subst this; exact absurd hk3.1 hf
      · rw [ht 3 m (by decide) h0 h1 (Or.inr hm)]; exact c 3 K' hf hK'
    · rw [e f (by omega) f3]; exact c f K' hf hK'
  · intro K' hK' hO
    have o' := o K' hK' hO
    rw [e 1 (by decide) (by decide), e 2 (by decide) (by decide)]
    exact ⟨o'.1, fun k41 => by rw [e3 (Or.inr (Or.inr (Or.inr (by omega))))]; exact o'.2 k41⟩
  · unfold gX at *; rw [e 5 (by decide) (by decide)]; exact x
  · unfold gN at *; rw [e 5 (by decide) (by decide)]; exact n
  · unfold gG at *; rw [e 1 (by decide) (by decide)]; exact z
theorem GI.up {N nm nm' : Int} {t g : Nat → Int → Int} (G : GI N nm t g) (h : nm ≤ nm') : GI N nm' t g := GI.mv G (fun _ _ _ _ _ => rfl) rfl h
theorem GS0.c3 {s t : rS} {k K : Nat} {g : Nat → Int → Int} {it d lo x y e : Int} (hk : rgk k) (G : GS0 s k g) (O : OP s k g it K d lo x y e) (hK : K = 36 ∨ K = 37 ∨ K = 45 ∨ K = 46) (R : RG s t k it) (h2 : tr t k 2 it = tr s k 2 it) (hN : rF t k 7 = rF s k 7 := by first | omega | (simp only [rF_sT, rF_sA]; omega)) (hn : rF s k 12 ≤ rF t k 12 := by first | omega | (simp only [rF_sT, rF_sA]; omega)) : GS0 t k g := by
  unfold GS0; rw [hN]
  refine GI.c3 (GI.up G hn) O.2.2.1 (by rcases hK with rfl | rfl | rfl | rfl <;> decide) (fun f i hf _ hi h => ?_)
  by_cases e2 : f = 2 ∧ i = it
  · rw [e2.1, e2.2]; exact h2
  · exact RG.f hk R hf hi (by omega)
theorem GS0.g34 {s : rS} {k : Nat} {g : Nat → Int → Int} {i x : Int} (G : GS0 s k g) : GS0 (sA s (1000 * (k + 1) + 34) i x) k g := by unfold GS0 at *; rw [tr_g34]; exact G
theorem OP.g34 {s : rS} {k K : Nat} {g : Nat → Int → Int} {it d lo x y e i z : Int} (O : OP s k g it K d lo x y e) : OP (sA s (1000 * (k + 1) + 34) i z) k g it K d lo x y e := O
theorem NR.g34 {s : rS} {k S : Nat} {g : Nat → Int → Int} {v n0 lo hi d i z : Int} (V : NR s k g S v n0 lo hi d) : NR (sA s (1000 * (k + 1) + 34) i z) k g S v n0 lo hi d := V
theorem LI.g34 {s : rS} {k f K : Nat} {g : Nat → Int → Int} {it l i z : Int} (L : LI s k g it f K l) : LI (sA s (1000 * (k + 1) + 34) i z) k g it f K l := by unfold LI at *; rw [tr_g34]; exact L

theorem GI.c4 {N nm it : Int} {K : Nat} {t t' g : Nat → Int → Int} (G : GI N nm t g) (hK : g 0 it = (K : Int)) (hk3 : (K ≠ 4 ∧ K ≠ 6 ∧ K ≠ 7) ∨ rind (t' 4 it)) (ht : ∀ f i, (f ≠ 4 ∨ i ≠ it) → t' f i = t f i) : GI N nm t' g := by
  intro m h0 h1
  obtain ⟨s, u, c, o, x, n, z⟩ := G m h0 h1
  have e := fun f (h3 : f ≠ 4) => ht f m (Or.inl h3)
  refine ⟨?_, u, ?_, ?_, ?_, ?_, ?_⟩
  · unfold gS at *
    rw [e 0 (by decide), e 1 (by decide), e 2 (by decide), e 3 (by decide)]
    obtain ⟨s1, s2, s3, s4, s5, s6, s7, s8, s9, s10, s11, s12, s13, s14, s15, s16, s17⟩ := s
    refine ⟨s1, s2, s3, s4, s5, s6, s7, s8, s9, s10, s11, s12, s13, s14, s15, s16, fun h => ?_⟩
    by_cases hm : m = it
    · subst hm
      rcases hk3 with q | q
      · omega
      · exact q
    · rw [ht 4 m (Or.inr hm)]; exact s17 h
  · intro f K' hf hK'
    have h13 := tb_13 hf
    rw [e f (by omega)]; exact c f K' hf hK'
  · unfold gO at *; rw [e 1 (by decide), e 2 (by decide), e 3 (by decide)]; exact o
  · unfold gX at *; rw [e 5 (by decide)]; exact x
  · unfold gN at *; rw [e 5 (by decide)]; exact n
  · unfold gG at *; rw [e 1 (by decide)]; exact z
theorem GS0.c4 {s : rS} {k K : Nat} {g : Nat → Int → Int} {it d lo x y e z : Int} (hk : rgk k) (G : GS0 s k g) (O : OP s k g it K d lo x y e) (hK : (K ≠ 4 ∧ K ≠ 6 ∧ K ≠ 7) ∨ rind z) : GS0 (sT s k 4 it z) k g := by
  unfold GS0; rw [tr_u hk (by decide)]
  exact GI.c4 G O.2.2.1 (by rw [udt_eq]; exact hK) (fun f i h => udt_ne h)
theorem OP.c4 {s : rS} {k K f : Nat} {g : Nat → Int → Int} {it d lo x y e i z : Int} (O : OP s k g it K d lo x y e) : OP (sT s k f i z) k g it K d lo x y e := O
theorem NR.c4 {s : rS} {k S f : Nat} {g : Nat → Int → Int} {v n0 lo hi d i z : Int} (V : NR s k g S v n0 lo hi d) : NR (sT s k f i z) k g S v n0 lo hi d := V
theorem LI.c4 {s : rS} {k f K f2 : Nat} {g : Nat → Int → Int} {it l i z : Int} (hk : rgk k) (h5 : f2 ≠ 5) (h6 : f2 < 6) (L : LI s k g it f K l) : LI (sT s k f2 i z) k g it f K l := by
  unfold LI at *
  rw [tr_u hk h6]
  unfold LIt at *
  have e5 : ∀ m, udt (tr s k) f2 i z 5 m = tr s k 5 m := fun m => udt_ne (Or.inl (fun e => h5 e.symm))
  simp only [e5]; exact L
theorem OP.lo {s t : rS} {k K : Nat} {g g' : Nat → Int → Int} {it d d0 lo x y e lo' x' y' e' N N' : Int} (O : OP s k g it K d0 lo x y e) (h : GK g g' N N' it) (O' : OP t k g' it K d lo' x' y' e') (hN : N = rF s k 7 := by rfl) : OP t k g' it K d lo x' y' e' := by
  subst hN
  obtain ⟨o1, o2, o3, o4, o5, o6, o7, o8, o9, o10, o11, o12, o13, o14⟩ := O'
  have e1 := h.2.1 1 it O.2.1 (Or.inr (Or.inl (by decide)))
  have := O.2.2.2.2.2.2.1
  exact ⟨o1, o2, o3, o4, o5, o6, by omega, o8, by omega, o10, o11, o12, o13, o14⟩
/-- the first of a row, and the next one -/
theorem GS0.fst {s : rS} {k f K : Nat} {g : Nat → Int → Int} {it : Int} (G : GS0 s k g) (h0 : 0 < it) (h1 : it < rF s k 7) (hK : g 0 it = (K : Int)) (hf : tb f K ≠ 0 := by decide) (h52 : K ≠ 52 := by decide) : tr s k f it = 0 ∨ (0 < tr s k f it ∧ tr s k f it < rF s k 7 ∧ g 3 (tr s k f it) = it ∧ g 8 (tr s k f it) = (f : Int)) := by
  rcases (G it h0 h1).2.2.1 f K hf hK with q | q | q
  · exact Or.inl q
  · exact absurd q.2.1 h52
  · exact Or.inr ⟨q.1, q.2.1, q.2.2.1, q.2.2.2.1⟩
theorem GS0.nxt {s : rS} {k f K : Nat} {g : Nat → Int → Int} {it o : Int} (G : GS0 s k g) (h0 : 0 < o) (h1 : o < rF s k 7) (h3 : g 3 o = it) (h8 : g 8 o = (f : Int)) (hit : 0 < it) (hK : g 0 it = (K : Int)) (h10 : tb f K ≠ 11 ∧ tb f K ≠ 12 ∧ tb f K ≠ 13 := by decide) : so (tb f K) (g 0 o) ∧ (tr s k 5 o = 0 ∨ (o < tr s k 5 o ∧ tr s k 5 o < rF s k 7 ∧ g 3 (tr s k 5 o) = it ∧ g 8 (tr s k 5 o) = (f : Int))) := by
  have q := G o h0 h1
  rcases q.2.1 with u | ⟨uz, u1, f', K', u2, u3, u4⟩
  · omega
  · rw [h3] at u3 u4
    have e1 : f = f' := by omega
    have e2 : K = K' := by omega
    subst e1 e2
    have h10' := so_ge u4.2.1 h10.1 h10.2.1 h10.2.2 tb_22
    refine ⟨u4.2.1, ?_⟩
    rcases q.2.2.2.2.1 with x | ⟨x1, x2, x3, x4, x5, x6, x7, x8⟩
    · exact Or.inl x
    · exact Or.inr ⟨(x7 h10').2.2, x2, x4.trans h3, x5.trans h8⟩

theorem ENo_c {P : Prop} {s t : rS} {k K : Nat} {g : Nat → Int → Int} {r x1 x2 x3 : Int} (b d : Int) (hK : K = 36 ∨ K = 45) (hx : x1 = (K : Int)) (hk : rgk k) (G : Im P (GS0 s k g)) (R : Im P (RG s t k 0)) (hr : r = rF s k 7) (hN : rF t k 7 = rF s k 7 + 1) (h0 : tr t k 0 r = x1) (h1 : tr t k 1 r = x2) (h2 : tr t k 2 r = x3) (h5 : tr t k 5 r = 0) (sd : Im P (0 < rF s k 7 ∧ (0 ≤ b ∧ b ≤ 9000) ∧ (-1 ≤ d ∧ d ≤ 21) ∧ rF s k 12 ≤ rF t k 12 ∧ (x3 = 0) ∧ True)) : ∃ g', Im P (GS0 t k g' ∧ GK g g' (rF s k 7) (rF t k 7) 0 ∧ OP t k g' r K d b (-1) b 0 ∧ g' 6 r = 0) := by
  rcases hK with rfl | rfl
  · exact ENo_36 b d hk G R hr hN (h0.trans hx) h1 h2 h5 sd
  · exact ENo_45 b d hk G R hr hN (h0.trans hx) h1 h2 h5 sd
theorem ECo_c {P : Prop} {s : rS} {k K : Nat} {g : Nat → Int → Int} {it d lo x y e : Int} (b : Int) (hK : K = 36 ∨ K = 45) (G : Im P (GS0 s k g)) (O : Im P (OP s k g it K d lo x y e)) (sd : Im P (x ≤ b ∧ y ≤ b ∧ b ≤ 9000)) : ∃ g', Im P (GS0 s k g' ∧ NR s k g' (if K = 36 then 2 else 5) it it lo b d ∧ KC g g' it) := by
  rcases hK with rfl | rfl
  · exact ECo_36 b G O sd
  · exact ECo_45 b G O sd
theorem LIt.kd {N it l v fi z : Int} {f f' K ff : Nat} {t g g' : Nat → Int → Int} (hne : f' ≠ f) (L : LIt N t g it f' K l) (h : KS g g' it v f K) (h3i : g 3 it = 0) (h3v : g 3 v = 0) (h0 : 0 < it) (hfi : ff = 5 → fi ≠ 0 ∧ g 8 fi = (f : Int)) : LIt N (udt t ff fi z) g' it f' K l := by
  obtain ⟨a, b, b', b3, b7, b6, hv, b8⟩ := h
  rcases L with ⟨l1, l2⟩ | ⟨l1, l2, l3, l4, l5, l6⟩
  · refine Or.inl ⟨l1, fun q => ?_⟩
    rw [b6]
    by_cases hcf : cn f K = true
    · exact absurd (cn_uq hcf q) hne
    · rw [if_neg hcf]; exact l2 q
  · have hl1 : l ≠ v := fun E => by subst E; omega
    have hl2 : l ≠ it := fun E => by subst E; omega
    have e5 : ∀ m, g 8 m = (f' : Int) → udt t ff fi z 5 m = t 5 m := fun m hm => udt_ne (by
      by_cases q : ff = 5
      · right; intro E; have := (hfi q).2; rw [← E] at this; omega
      · exact Or.inl (fun e => q e.symm))
    refine Or.inr ⟨l1, l2, by rw [a 3 l hl1 hl2]; exact l3, by rw [a 8 l hl1 hl2]; exact l4, by rw [e5 l l4]; exact l5, fun hcn m m0 m1 m3 m8 m5 => ?_⟩
    by_cases hm : m = v
    · subst hm; rw [b8] at m8; omega
    · by_cases hi : m = it
      · subst hi; rw [b' 3 (by decide) (by decide)] at m3; omega
      · rw [a 3 m hm hi] at m3
        rw [a 8 m hm hi] at m8
        rw [e5 m m8] at m5
        exact l6 hcn m m0 m1 m3 m8 m5
theorem LI.kd {s : rS} {k f f' K ff : Nat} {g g' : Nat → Int → Int} {it l v fi z d lo x y e : Int} (hk : rgk k) (hff : ff < 6) (hne : f' ≠ f) (L : LI s k g it f' K l) (O : OP s k g it K d lo x y e) (h : KS g g' it v f K) (h3v : g 3 v = 0) (hfi : ff = 5 → fi ≠ 0 ∧ g 8 fi = (f : Int)) : LI (sT s k ff fi z) k g' it f' K l := by
  unfold LI
  rw [tr_u hk hff]
  exact LIt.kd hne L h O.2.2.2.1 h3v O.1 hfi

/-! rows without a parent (the MEMBERs ahead of their ZIP) -/
def ZLt (N : Int) (t g : Nat → Int → Int) (K : Nat) (F l n lo x d : Int) : Prop := 0 < F ∧ F < N ∧ g 3 F = -F ∧ g 5 F = 0 ∧ g 8 F = 1 ∧ 1 ≤ n ∧ n ≤ 9001 ∧ 0 < l ∧ l < N ∧ g 3 l = -F ∧ t 5 l = 0 ∧ g 5 l + 1 = n ∧ 0 ≤ lo ∧ lo ≤ x ∧ x ≤ 9000 ∧ (∀ m, 0 < m → m < N → g 3 m = -F → F ≤ m ∧ g 0 m = (K : Int) ∧ g 4 m = d ∧ lo ≤ g 1 m ∧ g 2 m ≤ x ∧ g 8 m = 1 ∧ g 5 m < n ∧ (t 5 m = 0 → m = l))
def KZ (g g' : Nat → Int → Int) (v F : Int) : Prop := g 3 v = 0 ∧ g' 3 v = -F ∧ 0 < F ∧ g 2 v ≤ 9000 ∧ (∀ j m, m ≠ v → g' j m = g j m) ∧ (∀ j, j ≠ 3 → j ≠ 5 → j ≠ 8 → g' j v = g j v)
def gz (g : Nat → Int → Int) (v F ix : Int) : Nat → Int → Int := fun j i => if i = v then (if j = 3 then -F else if j = 5 then ix else if j = 8 then 1 else g j i) else g j i
theorem gz_o {g : Nat → Int → Int} {v F ix i : Int} {j : Nat} (h : i ≠ v) : gz g v F ix j i = g j i := if_neg h
theorem gz_j {g : Nat → Int → Int} {v F ix i : Int} {j : Nat} (h : j ≠ 3 ∧ j ≠ 5 ∧ j ≠ 8) : gz g v F ix j i = g j i := by
  unfold gz; obtain ⟨a, b, c⟩ := h; simp only [a, b, c, if_false, ite_self]
theorem gz_3 {g : Nat → Int → Int} {v F ix : Int} : gz g v F ix 3 v = -F := by unfold gz; simp
theorem gz_5 {g : Nat → Int → Int} {v F ix : Int} : gz g v F ix 5 v = ix := by unfold gz; simp
theorem gz_8 {g : Nat → Int → Int} {v F ix : Int} : gz g v F ix 8 v = 1 := by unfold gz; simp
theorem KZ.gz {g : Nat → Int → Int} {v F ix : Int} (h3 : g 3 v = 0) (h2 : g 2 v ≤ 9000) (hF : 0 < F) : KZ g (gz g v F ix) v F := ⟨h3, gz_3, hF, h2, fun _ _ h => gz_o h, fun _ a b c => gz_j ⟨a, b, c⟩⟩
theorem GI.z {N nm v F ix : Int} {t g : Nat → Int → Int} (G : GI N nm t g) (h0v : 0 < v) (hvN : v < N) (h3 : g 3 v = 0) (hF : 0 < F ∧ F < N) (hFv : F = v ∨ g 3 F = -F) (hi : 0 ≤ ix ∧ ix ≤ 9000) (hb : 10 ≤ g 0 v → ix ≤ g 1 v) : t 5 v = 0 ∧ GI N nm t (gz g v F ix) := by
  have h5 : t 5 v = 0 := by
    rcases (G v h0v hvN).2.2.2.2.1 with q | q
    · exact q
    · exact absurd h3 q.2.2.1
  refine ⟨h5, fun m h0 h1 => ?_⟩
  obtain ⟨s, u, c, o, x, n, z⟩ := G m h0 h1
  have e0 : ∀ i, gz g v F ix 0 i = g 0 i := fun i => gz_j (by decide)
  have e1 : ∀ i, gz g v F ix 1 i = g 1 i := fun i => gz_j (by decide)
  have e2 : ∀ i, gz g v F ix 2 i = g 2 i := fun i => gz_j (by decide)
  have e4 : ∀ i, gz g v F ix 4 i = g 4 i := fun i => gz_j (by decide)
  have e6 : ∀ i, gz g v F ix 6 i = g 6 i := fun i => gz_j (by decide)
  have e7 : ∀ i, gz g v F ix 7 i = g 7 i := fun i => gz_j (by decide)
  refine ⟨?_, ?_, ?_, ?_, ?_, ?_, ?_⟩
  · unfold gS at *
    simp only [e0, e1, e2, e4, e6, e7]
    obtain ⟨s1, s2, s3, s4, s5, s6, s7, s8, s9, s10, s11, s12, s13⟩ := s
    refine ⟨s1, s2, s3, s4, s5, s6, s7, ?_, ?_, s10, s11, ?_, s13⟩
    · by_cases hm : m = v
      · subst hm; rw [gz_5]; exact hi.1
      · rw [gz_o hm]; exact s8
    · by_cases hm : m = v
      · subst hm; rw [gz_5]; exact hi.2
      · rw [gz_o hm]; exact s9
    · intro h10
      by_cases hm : m = v
      · subst hm; rw [gz_5]; exact hb h10
      · rw [gz_o hm]; exact s12 h10
  · by_cases hm : m = v
    · subst hm
      left
      refine ⟨by rw [gz_3]; omega, fun h => ?_⟩
      rw [gz_3] at h ⊢
      have eF : -(-F) = F := by omega
      rw [eF]
      refine ⟨hF.2, ?_⟩
      by_cases hFm : F = m
      · rw [hFm, gz_3]
      · rw [gz_o hFm]; rcases hFv with q | q
        · exact absurd q hFm
        · exact q
    · rcases u with u | ⟨uz, u1, f', K', u2, u3, u4⟩
      · left
        refine ⟨by rw [gz_o hm]; exact u.1, fun h => ?_⟩
        rw [gz_o hm] at h ⊢
        have w := u.2 h
        have hw : -(g 3 m) ≠ v := fun E => by rw [E] at w; omega
        rw [gz_o hw]; exact w
      · right
        rw [gz_o hm, gz_o hm, e0]
        refine ⟨uz, u1, f', K', u2, u3, ?_⟩
        unfold gP at *
        simp only [e0, e1, e2, e4, e6, e7]
        rw [gz_o hm]; exact u4
  · intro f' K' hf' hK'
    rw [e0] at hK'
    rcases c f' K' hf' hK' with q | q | ⟨q1, q2, q3, q4, q5⟩
    · exact Or.inl q
    · exact Or.inr (Or.inl q)
    · right; right
      have hv : t f' m ≠ v := fun E => by rw [E] at q3; omega
      rw [gz_o hv, gz_o hv, gz_o hv, gz_o hv]
      exact ⟨q1, q2, q3, q4, q5⟩
  · unfold gO at *
    simp only [e0, e1, e2]; exact o
  · rcases x with q | ⟨q1, q2, q3, q4, q5, q6, q7, q8⟩
    · exact Or.inl q
    · right
      have hm : m ≠ v := fun E => by subst E; exact q3 h3
      have hv : t 5 m ≠ v := fun E => by rw [E] at q4; omega
      simp only [gz_o hm, gz_o hv]
      exact ⟨q1, q2, q3, q4, q5, q6, q7, q8⟩
  · intro h3' h5' f' K' hf' hK' hcn
    have hm : m ≠ v := fun E => by subst E; rw [gz_3] at h3'; omega
    rw [gz_o hm] at h3' hK' hf'
    rw [e0] at hK'
    rw [gz_o hm, gz_o hm, e6]
    exact n h3' h5' f' K' hf' hK' hcn
  · unfold gG at *; rw [e0, e2, e6]; exact z
theorem ZL.init {N nm n0 lo hi d v : Int} {K S : Nat} {t g : Nat → Int → Int} (hS : ∀ q, so S q → q = (K : Int)) (hK : 10 ≤ K) (G : GI N nm t g) (V : NRt N g S v n0 lo hi d) (hl : 0 ≤ lo ∧ lo ≤ hi) : ∃ g', GI N nm t g' ∧ ZLt N t g' K v v 1 lo hi d ∧ KZ g g' v v := by
  obtain ⟨v1, v2, v3, v4, v5, v6, v7, v8, v9⟩ := V
  replace v5 := hS _ v5
  obtain ⟨h5, G'⟩ := GI.z (ix := 0) (F := v) G v2 v3 v4 ⟨v2, v3⟩ (Or.inl rfl) (by omega) (fun _ => gS.b0 (G v v2 v3).1)
  refine ⟨gz g v v 0, G', ⟨v2, v3, gz_3, gz_5, gz_8, by omega, by omega, v2, v3, gz_3, h5, by rw [gz_5]; omega, hl.1, hl.2, v8, fun m h0 h1 h3 => ?_⟩, KZ.gz v4 (by omega) v2⟩
  have hm : m = v := by
    by_cases hm : m = v
    · exact hm
    · exfalso
      rw [gz_o hm] at h3
      rcases (G m h0 h1).2.1 with u | u
      · have w := u.2 (by omega)
        have e : -(g 3 m) = v := by omega
        rw [e] at w; omega
      · have := u.1; omega
  subst hm
  exact ⟨by omega, by rw [gz_j (by decide)]; exact v5, by rw [gz_j (by decide)]; exact v9, by rw [gz_j (by decide)]; exact v6, by rw [gz_j (by decide)]; exact v7, gz_8, by rw [gz_5]; omega, fun _ => rfl⟩
theorem ZL.app {N nm n0 l2 h2 d v F l n lo x : Int} {K S : Nat} {t g : Nat → Int → Int} (hS : ∀ q, so S q → q = (K : Int)) (hK : 10 ≤ K) (G : GI N nm t g) (Z : ZLt N t g K F l n lo x d) (V : NRt N g S v n0 l2 h2 d) (hx : x < l2) (hlv : l < v) : ∃ g', GI N nm (udt t 5 l v) g' ∧ ZLt N (udt t 5 l v) g' K F v (n + 1) lo h2 d ∧ KZ g g' v F := by
  obtain ⟨v1, v2, v3, v4, v5, v6, v7, v8, v9⟩ := V
  obtain ⟨z1, z2, z3, z4, z5, z6, z7, z8, z9, z10, z11, z12, z13, z14, z15, z16⟩ := Z
  replace v5 := hS _ v5
  have hl := z16 l z8 z9 z10
  have gl := G l z8 z9
  have gv := G v v2 v3
  have b1 := gS.be gl.1
  have b2 := gS.ib gl.1 (by omega)
  have b3 := gS.be gv.1
  have b4 := gS.b1 gv.1
  have hnb : n ≤ g 1 v := by have := hl.2.2.2.2.1; omega
  obtain ⟨h5, G'⟩ := GI.z (ix := n) (F := F) G v2 v3 v4 ⟨z1, z2⟩ (Or.inr z3) (by omega) (fun _ => hnb)
  have hlv' : l ≠ v := by omega
  have hFv : F ≠ v := fun E => by rw [E, v4] at z3; omega
  have u0 : ∀ f' m, f' ≠ 5 → udt t 5 l v f' m = t f' m := fun f' m hh => udt_ne (Or.inl hh)
  have u5 : ∀ m, m ≠ l → udt t 5 l v 5 m = t 5 m := fun m hh => udt_ne (Or.inr hh)
  refine ⟨gz g v F n, fun m h0 h1 => ?_, ⟨z1, z2, by rw [gz_o hFv]; exact z3, by rw [gz_o hFv]; exact z4, by rw [gz_o hFv]; exact z5, by omega, by omega, v2, v3, gz_3, by rw [u5 v (by omega)]; exact h5, by rw [gz_5], z13, by have := hl.2.2.2.1; have := hl.2.2.2.2.1; omega, v8, fun m h0 h1 h3 => ?_⟩, KZ.gz v4 (by omega) z1⟩
  · obtain ⟨s, u, c, o, x', nn, zz⟩ := G' m h0 h1
    refine ⟨?_, u, ?_, ?_, ?_, ?_, ?_⟩
    · unfold gS at *; rw [u0 0 m (by decide), u0 1 m (by decide), u0 2 m (by decide), u0 3 m (by decide), u0 4 m (by decide)]; exact s
    · intro f' K' hf' hK'
      have t1 := tb_13 hf'
      rw [u0 f' m (by omega)]; exact c f' K' hf' hK'
    · unfold gO at *; rw [u0 1 m (by decide), u0 2 m (by decide), u0 3 m (by decide)]; exact o
    · by_cases hm : m = l
      · subst hm
        right
        rw [udt_eq]
        simp only [gz_o hlv', gz_3, gz_8, gz_5, gz_j (g := g) (v := v) (F := F) (ix := n) (i := v) (j := 1) (by decide)]
        have := hl.2.2.2.2.1
        exact ⟨v2, v3, by omega, by omega, hl.2.2.2.2.2.1.symm, by omega, fun _ => ⟨by omega, by omega, hlv⟩, by omega⟩
      · unfold gX at *; rw [u5 m hm]; exact x'
    · by_cases hm : m = l
      · subst hm
        intro h3'
        rw [gz_o hlv'] at h3'; omega
      · unfold gN at *; rw [u5 m hm]; exact nn
    · unfold gG at *; rw [u0 1 m (by decide)]; exact zz
  · by_cases hm : m = v
    · subst hm
      refine ⟨by have := hl.1; omega, by rw [gz_j (by decide)]; exact v5, by rw [gz_j (by decide)]; exact v9, ?_, by rw [gz_j (by decide)]; exact v7, gz_8, by rw [gz_5]; omega, fun _ => rfl⟩
      rw [gz_j (by decide)]; have := hl.2.2.2.1; have := hl.2.2.2.2.1; omega
    · rw [gz_o hm] at h3
      have q := z16 m h0 h1 h3
      simp only [gz_o hm]
      refine ⟨q.1, q.2.1, q.2.2.1, q.2.2.2.1, ?_, q.2.2.2.2.2.1, by omega, fun h5' => ?_⟩
      · have := hl.2.2.2.2.1; have := q.2.2.2.2.1; omega
      · by_cases hml : m = l
        · subst hml; rw [udt_eq] at h5'; omega
        · rw [u5 m hml] at h5'; exact absurd (q.2.2.2.2.2.2.2 h5') hml
def gzz (g : Nat → Int → Int) (N F n lo d : Int) : Nat → Int → Int := fun j i => if i = N then (if j = 0 then 40 else if j = 1 then lo else if j = 2 then 100000 else if j = 4 then d else if j = 6 then n else if j = 7 then 100000 else 0) else if j = 3 ∧ 0 < i ∧ g 3 i = -F then N else g j i
/-- a ZIP over its MEMBERs: those of F hang on it -/
def KZZ (g g' : Nat → Int → Int) (N F : Int) : Prop := 0 < F ∧ (∀ j m, m < N → (j ≠ 3 ∨ m ≤ 0 ∨ g 3 m ≠ -F) → g' j m = g j m) ∧ (∀ m, 0 < m → m < N → g 3 m = -F → g' 3 m = N) ∧ g' 3 N = 0
theorem ZL.zip {N nm d F l n lo x : Int} {t t' g : Nat → Int → Int} (G : GI N nm t g) (Z : ZLt N t g 41 F l n lo x d) (hN : 0 < N) (ht : ∀ f i, f < 6 → 0 < i → i < N → t' f i = t f i) (h0 : t' 0 N = 40) (h1 : t' 1 N = F) (h2 : t' 2 N = 0) (h5 : t' 5 N = 0) (hd : 0 ≤ d ∧ d ≤ 21) : ∃ g', GI (N + 1) nm t' g' ∧ OPt (N + 1) g' N 40 (d - 1) lo x x 0 ∧ KZZ g g' N F ∧ g' 6 N = n := by
  obtain ⟨z1, z2, z3, z4, z5, z6, z7, z8, z9, z10, z11, z12, z13, z14, z15, z16⟩ := Z
  have eN : ∀ j, gzz g N F n lo (d - 1) j N = (if j = 0 then 40 else if j = 1 then lo else if j = 2 then 100000 else if j = 4 then (d - 1) else if j = 6 then n else if j = 7 then 100000 else 0) := fun j => if_pos rfl
  have eo : ∀ j i, i ≠ N → (j ≠ 3 ∨ i ≤ 0 ∨ g 3 i ≠ -F) → gzz g N F n lo (d - 1) j i = g j i := fun j i hi hj => by
    unfold gzz; rw [if_neg hi, if_neg (by omega)]
  have e3 : ∀ i, i ≠ N → 0 < i → g 3 i = -F → gzz g N F n lo (d - 1) 3 i = N := fun i hi h0 h3 => by
    unfold gzz; rw [if_neg hi, if_pos ⟨rfl, h0, h3⟩]
  have ej : ∀ j i, i < N → j ≠ 3 → gzz g N F n lo (d - 1) j i = g j i := fun j i hi hj => eo j i (by omega) (Or.inl hj)
  refine ⟨gzz g N F n lo (d - 1), fun m m0 m1 => ?_, ?_, ⟨z1, fun j m hm hj => eo j m (by omega) hj, fun m a b c => e3 m (by omega) a c, by rw [eN]; simp⟩, by rw [eN]; simp⟩
  · by_cases hm : m = N
    · subst hm
      refine ⟨?_, Or.inl ⟨by rw [eN]; simp, fun h => by rw [eN] at h; simp at h⟩, fun f K hf hK => ?_, fun K hK hO => ?_, Or.inl h5, fun h => by rw [eN] at h; simp at h, fun h => by rw [eN] at h; simp at h⟩
      · unfold gS; simp only [eN, h0]
        refine ⟨by simp, by simp; omega, by simp; omega, by simp; omega, by simp, by simp; omega, by simp; omega, by simp, by simp, by simp; omega, by simp, by simp; omega, by simp, by simp, by simp, by simp, by simp⟩
      · rw [eN] at hK
        have e : K = 40 := by simp at hK; omega
        subst e
        have t1 := tb_13 hf
        by_cases f1 : f = 1
        · subst f1
          right; right
          rw [h1, e3 F (by omega) z1 z3, ej 8 F z2 (by decide), ej 5 F z2 (by decide)]
          exact ⟨z1, by omega, rfl, z5, fun _ => z4⟩
        · by_cases f2 : f = 2
          · subst f2; left; exact h2
          · have f3 : f = 3 := by omega
            subst f3; exact absurd rfl hf
      · rw [eN] at hK
        have e : K = 40 := by simp at hK; omega
        subst e
        exact ⟨fun _ x => absurd h2 x, fun e => absurd e (by decide)⟩
    · have hmN : m < N := by omega
      obtain ⟨s, u, c, o, x', nn, zz⟩ := G m m0 hmN
      have et := fun f hf => ht f m hf m0 hmN
      refine ⟨?_, ?_, ?_, ?_, ?_, ?_, ?_⟩
      · unfold gS at *
        rw [et 0 (by decide), et 1 (by decide), et 2 (by decide), et 3 (by decide), et 4 (by decide)]
        simp only [ej 0 m hmN (by decide), ej 1 m hmN (by decide), ej 2 m hmN (by decide), ej 4 m hmN (by decide), ej 5 m hmN (by decide), ej 6 m hmN (by decide), ej 7 m hmN (by decide)]
        exact s
      · by_cases q : g 3 m = -F
        · right
          have w := z16 m m0 hmN q
          rw [e3 m hm m0 q, ej 8 m hmN (by decide), eN]
          refine ⟨hN, by omega, 1, 40, w.2.2.2.2.2.1, by simp, ?_⟩
          unfold gP
          simp only [eN, ej 0 m hmN (by decide), ej 1 m hmN (by decide), ej 2 m hmN (by decide), ej 4 m hmN (by decide), ej 5 m hmN (by decide)]
          have hds : ds 1 40 = 1 := rfl
          refine ⟨by decide, w.2.1, by simp; omega, by simp; exact w.2.2.2.1, by simp; omega, fun _ => by simp; exact w.2.2.2.2.2.2.1, fun e => absurd e (by decide), fun e => absurd e (by decide)⟩
        · have em : gzz g N F n lo (d - 1) 3 m = g 3 m := eo 3 m hm (Or.inr (Or.inr q))
          rcases u with u | ⟨uz, u1, f', K', u2, u3, u4⟩
          · left
            refine ⟨by rw [em]; exact u.1, fun h => ?_⟩
            rw [em] at h ⊢
            have w := u.2 h
            have hq : g 3 (-(g 3 m)) ≠ -F := by rw [w.2]; exact q
            rw [eo 3 _ (by omega) (Or.inr (Or.inr hq))]
            exact ⟨by omega, w.2⟩
          · right
            rw [em, ej 8 m hmN (by decide), ej 0 _ u1 (by decide)]
            refine ⟨uz, by omega, f', K', u2, u3, ?_⟩
            unfold gP at *
            simp only [ej 0 m hmN (by decide), ej 1 m hmN (by decide), ej 2 m hmN (by decide), ej 4 m hmN (by decide), ej 5 m hmN (by decide), ej 1 _ u1 (show (1 : Nat) ≠ 3 by decide), ej 2 _ u1 (show (2 : Nat) ≠ 3 by decide), ej 4 _ u1 (show (4 : Nat) ≠ 3 by decide), ej 6 _ u1 (show (6 : Nat) ≠ 3 by decide), ej 7 _ u1 (show (7 : Nat) ≠ 3 by decide)]
            exact u4
      · intro f' K' hf' hK'
        have t1 := tb_13 hf'
        rw [ej 0 m hmN (by decide)] at hK'
        rw [et f' (by omega)]
        rcases c f' K' hf' hK' with q | q | ⟨q1, q2, q3, q4, q5⟩
        · exact Or.inl q
        · exact Or.inr (Or.inl q)
        · right; right
          rw [eo 3 _ (by omega) (Or.inr (Or.inr (by omega))), ej 8 _ q2 (by decide), ej 0 _ q2 (by decide), ej 5 _ q2 (by decide)]
          exact ⟨q1, by omega, q3, q4, q5⟩
      · intro K' hK' hO
        rw [ej 0 m hmN (by decide)] at hK'
        have o' := o K' hK' hO
        rw [et 1 (by decide), et 2 (by decide), et 3 (by decide)]
        have b1 : tb 1 K' ≠ 0 ∧ tb 2 K' ≠ 0 ∧ (K' = 41 → tb 3 K' ≠ 0) ∧ K' ≠ 52 := by unfold od at hO; split at hO <;> first | decide | exact absurd hO (by decide)
        have hb : ∀ f, f < 6 → t f m ≠ 0 → tb f K' ≠ 0 → t f m < N := by
          intro f hf hne htb
          rcases c f K' htb hK' with h | h | h
          · exact absurd h hne
          · exact absurd h.2.1 b1.2.2.2
          · exact h.2.1
        refine ⟨fun a1 a2 => ?_, fun k41 a1 a2 => ?_⟩
        · rw [ej 2 _ (hb 1 (by decide) a1 b1.1) (by decide), ej 1 _ (hb 2 (by decide) a2 b1.2.1) (by decide)]; exact o'.1 a1 a2
        · rw [ej 2 _ (hb 1 (by decide) a1 b1.1) (by decide), ej 1 _ (hb 3 (by decide) a2 (b1.2.2.1 k41)) (by decide)]; exact o'.2 k41 a1 a2
      · unfold gX at *
        rw [et 5 (by decide)]
        rcases x' with q | ⟨q1, q2, q3, q4, q5, q6, q7, q8⟩
        · exact Or.inl q
        · right
          have e33 : gzz g N F n lo (d - 1) 3 (t 5 m) = gzz g N F n lo (d - 1) 3 m ∧ gzz g N F n lo (d - 1) 3 m ≠ 0 := by
            by_cases q : g 3 m = -F
            · rw [e3 m hm m0 q, e3 _ (by omega) q1 (q4.trans q)]; exact ⟨rfl, by omega⟩
            · rw [eo 3 m hm (Or.inr (Or.inr q)), eo 3 _ (by omega) (Or.inr (Or.inr (by rw [q4]; exact q)))]; exact ⟨q4, q3⟩
          simp only [ej 8 m hmN (by decide), ej 8 _ q2 (show (8 : Nat) ≠ 3 by decide), ej 2 m hmN (by decide), ej 1 _ q2 (show (1 : Nat) ≠ 3 by decide), ej 0 m hmN (by decide), ej 5 m hmN (by decide), ej 5 _ q2 (show (5 : Nat) ≠ 3 by decide)]
          exact ⟨q1, by omega, e33.2, e33.1, q5, q6, q7, q8⟩
      · intro h3' h5' f' K' hf' hK' hcn
        rw [et 5 (by decide)] at h5'
        rw [ej 8 m hmN (by decide)] at hf'
        rw [ej 5 m hmN (by decide)]
        by_cases q : g 3 m = -F
        · have w := z16 m m0 hmN q
          have := w.2.2.2.2.2.2.2 h5'
          subst this
          rw [e3 m hm m0 q, eN]; simp; exact z12
        · rw [eo 3 m hm (Or.inr (Or.inr q))] at h3' hK' ⊢
          have u1 : g 3 m < N := by rcases u with u | u; omega; exact u.2.1
          rw [ej 0 _ u1 (by decide)] at hK'
          rw [ej 6 _ u1 (by decide)]
          exact nn h3' h5' f' K' hf' hK' hcn
      · unfold gG at *
        rw [et 1 (by decide), ej 0 m hmN (by decide), ej 2 m hmN (by decide), ej 6 m hmN (by decide)]; exact zz
  · refine ⟨hN, by omega, by rw [eN]; simp, by rw [eN]; simp, by rw [eN]; simp, by rw [eN]; simp, by rw [eN]; simp, by rw [eN]; simp; exact z14, z14, fun _ => by rw [eN]; simp, Or.inl (by rw [eN]; simp), z15, z15, fun m m0 m1 m3 => ?_⟩
    have hm : m ≠ N := fun E => by subst E; rw [eN] at m3; simp at m3; omega
    by_cases q : g 3 m = -F
    · rw [ej 2 m (by omega) (by decide)]; exact (z16 m m0 (by omega) q).2.2.2.2.1
    · rw [eo 3 m hm (Or.inr (Or.inr q))] at m3
      rcases (G m m0 (by omega)).2.1 with u | u
      · have := u.1; omega
      · have := u.2.1; omega

def ZL (s : rS) (k : Nat) (g : Nat → Int → Int) (F l n lo x d : Int) : Prop := ZLt (rF s k 7) (tr s k) g 41 F l n lo x d
theorem EZIo {P : Prop} {s : rS} {k : Nat} {g : Nat → Int → Int} {v n0 lo hi d : Int} (G : Im P (GS0 s k g)) (V : Im P (NR s k g 1 v n0 lo hi d)) (sd : Im P (0 ≤ lo ∧ lo ≤ hi)) : ∃ g', Im P (GS0 s k g' ∧ ZL s k g' v v 1 lo hi d ∧ KZ g g' v v) := imx g (fun hp => ZL.init (K := 41) (S := 1) (fun q h => by rw [so_1] at h; exact h) (by decide) (G hp) (V hp) (sd hp))
theorem EZAo {P : Prop} {s : rS} {k : Nat} {g : Nat → Int → Int} {F l n lo x d v n0 l2 h2 d' : Int} (hk : rgk k) (G : Im P (GS0 s k g)) (Z : Im P (ZL s k g F l n lo x d)) (V : Im P (NR s k g 1 v n0 l2 h2 d')) (sd : Im P (x < l2 ∧ l < v ∧ d' = d)) : ∃ g', Im P (GS0 (sT s k 5 l v) k g' ∧ ZL (sT s k 5 l v) k g' F v (n + 1) lo h2 d ∧ KZ g g' v F ∧ g 3 l = -F) := by
  refine imx g (fun hp => ?_)
  have q := sd hp
  have v' := V hp
  rw [q.2.2] at v'
  obtain ⟨g', a, b, c⟩ := ZL.app (K := 41) (S := 1) (fun q h => by rw [so_1] at h; exact h) (by decide) (G hp) (Z hp) v' q.1 q.2.1
  refine ⟨g', ?_, ?_, c, (Z hp).2.2.2.2.2.2.2.2.2.1⟩
  · unfold GS0; rw [tr_u hk (by decide)]; exact a
  · unfold ZL; rw [tr_u hk (by decide)]; exact b
theorem EZZo {P : Prop} {s t : rS} {k : Nat} {g : Nat → Int → Int} {r F l n lo x d x3 : Int} (hk : rgk k) (G : Im P (GS0 s k g)) (Z : Im P (ZL s k g F l n lo x d)) (R : Im P (RG s t k 0)) (hr : r = rF s k 7) (hN : rF t k 7 = rF s k 7 + 1) (h0 : tr t k 0 r = 40) (h1 : tr t k 1 r = F) (h2 : tr t k 2 r = x3) (h5 : tr t k 5 r = 0) (sd : Im P (0 < rF s k 7 ∧ 0 ≤ d ∧ d ≤ 21 ∧ rF s k 12 ≤ rF t k 12 ∧ x3 = 0)) : ∃ g', Im P (GS0 t k g' ∧ OP t k g' r 40 (d - 1) lo x x 0 ∧ KZZ g g' (rF s k 7) F ∧ g' 6 r = n) := by
  refine imx g (fun hp => ?_)
  obtain ⟨q1, q2, q3, q4, q5⟩ := sd hp
  subst hr q5
  obtain ⟨g', a, b, c, e⟩ := ZL.zip (t' := tr t k) (GI.up (G hp) q4) (Z hp) q1 (fun f i hf _ hi => RG.f hk (R hp) hf hi (Or.inr (Or.inl rfl))) h0 h1 h2 h5 ⟨q2, q3⟩
  refine ⟨g', ?_, ?_, c, e⟩
  · unfold GS0; rw [hN]; exact a
  · unfold OP; rw [hN]; exact b
theorem ZLt.gk {s t : rS} {k K : Nat} {g g' : Nat → Int → Int} {F l n lo x d c : Int} (hk : rgk k) (Z : ZLt (rF s k 7) (tr s k) g K F l n lo x d) (R : RG s t k c) (h : GK g g' (rF s k 7) (rF t k 7) 0) : ZLt (rF t k 7) (tr t k) g' K F l n lo x d := by
  obtain ⟨z1, z2, z3, z4, z5, z6, z7, z8, z9, z10, z11, z12, z13, z14, z15, z16⟩ := Z
  obtain ⟨a, b, b'⟩ := h
  have e := fun j m (hm : m < rF s k 7) => b j m hm (Or.inr (Or.inr rfl))
  have e5 : ∀ m, m < rF s k 7 → tr t k 5 m = tr s k 5 m := fun m hm => RG.f hk R (by decide) hm (by omega)
  refine ⟨z1, by omega, by rw [e 3 F z2]; exact z3, by rw [e 5 F z2]; exact z4, by rw [e 8 F z2]; exact z5, z6, z7, z8, by omega, by rw [e 3 l z9]; exact z10, by rw [e5 l z9]; exact z11, by rw [e 5 l z9]; exact z12, z13, z14, z15, fun m h0 h1 h3 => ?_⟩
  by_cases hm : m < rF s k 7
  · rw [e 3 m hm] at h3
    have q := z16 m h0 hm h3
    rw [e 0 m hm, e 4 m hm, e 1 m hm, e 2 m hm, e 8 m hm, e 5 m hm, e5 m hm]; exact q
  · have := b' m (by omega) h1; omega
theorem ZL.gk {s t : rS} {k : Nat} {g g' : Nat → Int → Int} {F l n lo x d c : Int} (hk : rgk k) (Z : ZL s k g F l n lo x d) (R : RG s t k c) (h : GK g g' (rF s k 7) (rF t k 7) 0) : ZL t k g' F l n lo x d := ZLt.gk hk Z R h
theorem OP.kz {s : rS} {k K : Nat} {g g' : Nat → Int → Int} {it d lo x y e v F l z : Int} (O : OP s k g it K d lo x y e) (h : KZ g g' v F) : OP s k g' it K d lo x y e ∧ OP (sT s k 5 l z) k g' it K d lo x y e := by
  have q : OP s k g' it K d lo x y e := by
    obtain ⟨o1, o2, o3, o4, o5, o6, o7, o8, o9, o10, o11, o12, o13, o14⟩ := O
    obtain ⟨a1, a2, a3, a4, a5, a6⟩ := h
    have hv : it ≠ v := fun E => by subst E; omega
    have e1 := fun j => a5 j it hv
    refine ⟨o1, o2, by rw [e1]; exact o3, by rw [e1]; exact o4, by rw [e1]; exact o5, by rw [e1]; exact o6, by rw [e1]; exact o7, by rw [e1]; exact o8, o9, by rw [e1]; exact o10, by rw [e1]; exact o11, o12, o13, fun m h0 h1 h3 => ?_⟩
    have hm : m ≠ v := fun E => by subst E; omega
    rw [a5 3 m hm] at h3
    rw [a5 2 m hm]; exact o14 m h0 h1 h3
  exact ⟨q, q⟩
theorem LI.kz {s : rS} {k f K : Nat} {g g' : Nat → Int → Int} {it l v F ll z d lo x y e : Int} (hk : rgk k) (L : LI s k g it f K l) (O : OP s k g it K d lo x y e) (h : KZ g g' v F) (h3 : g 3 ll = -F ∨ ll = v) : LI s k g' it f K l ∧ LI (sT s k 5 ll z) k g' it f K l := by
  obtain ⟨a1, a2, a3, a4, a5, a6⟩ := h
  have hit := O.1
  have hv : it ≠ v := fun E => by subst E; have := O.2.2.2.2.1; omega
  have key : ∀ t' : Nat → Int → Int, (∀ m, g 3 m = it → t' 5 m = tr s k 5 m) → LIt (rF s k 7) t' g' it f K l := by
    intro t' ht
    rcases L with ⟨l1, l2⟩ | ⟨l1, l2, l3, l4, l5, l6⟩
    · exact Or.inl ⟨l1, fun q => by rw [a5 6 it hv]; exact l2 q⟩
    · have hl : l ≠ v := fun E => by subst E; omega
      refine Or.inr ⟨l1, l2, by rw [a5 3 l hl]; exact l3, by rw [a5 8 l hl]; exact l4, by rw [ht l l3]; exact l5, fun hcn m m0 m1 m3 m8 m5 => ?_⟩
      have hm : m ≠ v := fun E => by subst E; omega
      rw [a5 3 m hm] at m3
      rw [a5 8 m hm] at m8
      rw [ht m m3] at m5
      exact l6 hcn m m0 m1 m3 m8 m5
  refine ⟨key _ (fun _ _ => rfl), ?_⟩
  unfold LI
  rw [tr_u hk (by decide)]
  exact key _ (fun m hm => udt_ne (Or.inr (fun E => by
    rw [E] at hm
    rcases h3 with q | q
    · omega
    · rw [q] at hm; omega)))
theorem OP.kzz {s t : rS} {k K : Nat} {g g' : Nat → Int → Int} {it d lo x y e F : Int} (O : OP s k g it K d lo x y e) (h : KZZ g g' (rF s k 7) F) (hN : rF t k 7 = rF s k 7 + 1) : OP t k g' it K d lo x y e := by
  obtain ⟨o1, o2, o3, o4, o5, o6, o7, o8, o9, o10, o11, o12, o13, o14⟩ := O
  obtain ⟨a1, a2, a3, a4⟩ := h
  have e1 := fun j => a2 j it o2 (by omega)
  refine ⟨o1, by omega, by rw [e1]; exact o3, by rw [e1]; exact o4, by rw [e1]; exact o5, by rw [e1]; exact o6, by rw [e1]; exact o7, by rw [e1]; exact o8, o9, by rw [e1]; exact o10, by rw [e1]; exact o11, o12, o13, fun m h0 h1 h3 => ?_⟩
  have hm : m ≠ rF s k 7 := fun E => by rw [E] at h3; omega
  by_cases q : g 3 m = -F
  · rw [a3 m h0 (by omega) q] at h3; omega
  · rw [a2 3 m (by omega) (by omega)] at h3
    rw [a2 2 m (by omega) (by omega)]; exact o14 m h0 (by omega) h3
theorem LI.kzz {s t : rS} {k f K : Nat} {g g' : Nat → Int → Int} {it l d lo x y e F c : Int} (hk : rgk k) (L : LI s k g it f K l) (O : OP s k g it K d lo x y e) (R : RG s t k c) (h : KZZ g g' (rF s k 7) F) (hN : rF t k 7 = rF s k 7 + 1) : LI t k g' it f K l := by
  obtain ⟨a1, a2, a3, a4⟩ := h
  have o1 := O.1
  have o2 := O.2.1
  have o4 := O.2.2.2.1
  have e5 : ∀ m, m < rF s k 7 → tr t k 5 m = tr s k 5 m := fun m hm => RG.f hk R (by decide) hm (by omega)
  rcases L with ⟨l1, l2⟩ | ⟨l1, l2, l3, l4, l5, l6⟩
  · exact Or.inl ⟨l1, fun q => by rw [a2 6 it o2 (by omega)]; exact l2 q⟩
  · refine Or.inr ⟨l1, by omega, by rw [a2 3 l l2 (by omega)]; exact l3, by rw [a2 8 l l2 (by omega)]; exact l4, by rw [e5 l l2]; exact l5, fun hcn m m0 m1 m3 m8 m5 => ?_⟩
    have hm : m ≠ rF s k 7 := fun E => by rw [E] at m3; omega
    by_cases q : g 3 m = -F
    · rw [a3 m m0 (by omega) q] at m3; omega
    · rw [a2 3 m (by omega) (by omega)] at m3
      rw [a2 8 m (by omega) (by omega)] at m8
      rw [e5 m (by omega)] at m5
      exact l6 hcn m m0 (by omega) m3 m8 m5
theorem GK.kz {N N' c v F : Int} {g g1 g2 : Nat → Int → Int} (h : GK g g1 N N' c) (k : KZ g1 g2 v F) (hv : N ≤ v) (hF : N ≤ F) : GK g g2 N N' c := by
  obtain ⟨a, b, b'⟩ := h
  obtain ⟨k1, k2, k3, k4, k5, k6⟩ := k
  refine ⟨a, fun j m hm hj => (k5 j m (by omega)).trans (b j m hm hj), fun m h0 h1 => ?_⟩
  by_cases hm : m = v
  · subst hm; omega
  · rw [k5 3 m hm]; exact b' m h0 h1
theorem GI.nz {N nm F m : Int} {t g : Nat → Int → Int} (G : GI N nm t g) (hF : N ≤ F) (h0 : 0 < m) (h1 : m < N) : g 3 m ≠ -F := by
  intro E
  rcases (G m h0 h1).2.1 with u | u
  · have w := u.2 (by omega); omega
  · have := u.1; omega
theorem GK.kzz {N N1 N' nm c F : Int} {t g g1 g2 : Nat → Int → Int} (h : GK g g1 N N1 c) (k : KZZ g1 g2 N1 F) (hN : N' = N1 + 1) (hF : N ≤ F) (G : GI N nm t g) (hN0 : 0 < N) : GK g g2 N N' c := by
  obtain ⟨a, b, b'⟩ := h
  obtain ⟨k1, k2, k3, k4⟩ := k
  refine ⟨by omega, fun j m hm hj => ?_, fun m h0 h1 => ?_⟩
  · rw [k2 j m (by omega) ?_]
    · exact b j m hm hj
    · by_cases j3 : j = 3
      · subst j3
        by_cases m0 : m ≤ 0
        · exact Or.inr (Or.inl m0)
        · right; right
          rw [b 3 m hm (Or.inr (Or.inl (by decide)))]
          exact GI.nz G hF (by omega) hm
      · exact Or.inl j3
  · by_cases hm : m = N1
    · subst hm; rw [k4]; omega
    · by_cases q : g1 3 m = -F
      · rw [k3 m (by omega) (by omega) q]; omega
      · rw [k2 3 m (by omega) (by omega)]; exact b' m h0 (by omega)


/-! what ZIPs and checks say -/
def ckOK (N : Int) (g : Nat → Int → Int) (c : Int × Int × Int) : Prop := ((c.2.1 = 36 ∨ c.2.1 = 45) ∧ 0 < c.1 ∧ c.1 < N ∧ g 0 c.1 = c.2.1) ∨ (c.2.1 = 51 ∧ 0 < c.1 ∧ c.1 < N ∧ 0 < c.2.2 ∧ c.2.2 < N) ∨ (c.2.1 = 33 ∧ 0 ≤ c.1 ∧ c.1 < N) ∨ (c.2.1 = 7 ∧ 0 < c.1 ∧ c.1 < N ∧ 0 ≤ c.2.2 ∧ c.2.2 < 320) ∨ ((c.2.1 = 1 ∨ c.2.1 = 2) ∧ 0 ≤ c.1 ∧ c.1 < 320)
theorem ckOK.mv {N N' : Int} {g g' : Nat → Int → Int} {c : Int × Int × Int} (h : ckOK N g c) (hN : N ≤ N') (h0 : ∀ m, 0 < m → m < N → g' 0 m = g 0 m) : ckOK N' g' c := by
  unfold ckOK at *
  rcases h with ⟨a, b, d, e⟩ | h | h | h | h
  · exact Or.inl ⟨a, b, by omega, by rw [h0 _ b d]; exact e⟩
  · exact Or.inr (Or.inl ⟨h.1, h.2.1, by omega, h.2.2.2.1, by omega⟩)
  · exact Or.inr (Or.inr (Or.inl ⟨h.1, h.2.1, by omega⟩))
  · exact Or.inr (Or.inr (Or.inr (Or.inl ⟨h.1, h.2.1, by omega, h.2.2.2⟩)))
  · exact Or.inr (Or.inr (Or.inr (Or.inr h)))
theorem ckOK.s {N : Int} {g : Nat → Int → Int} {v o : Int} (h : 0 ≤ v ∧ v < N) : ckOK N g (v, 33, o) := Or.inr (Or.inr (Or.inl ⟨rfl, h⟩))
theorem ckOK.n {N : Int} {g : Nat → Int → Int} {v o : Int} (h : 0 < v ∧ v < N ∧ 0 < o ∧ o < N) : ckOK N g (v, 51, o) := Or.inr (Or.inl ⟨rfl, h⟩)
theorem ckOK.p {N : Int} {g : Nat → Int → Int} {v o : Int} (h : 0 < v ∧ v < N ∧ 0 ≤ o ∧ o < 320) : ckOK N g (v, 7, o) := Or.inr (Or.inr (Or.inr (Or.inl ⟨rfl, h⟩)))
theorem ckOK.d1 {N : Int} {g : Nat → Int → Int} {v o : Int} (h : 0 ≤ v ∧ v < 320) : ckOK N g (v, 1, o) := Or.inr (Or.inr (Or.inr (Or.inr ⟨Or.inl rfl, h⟩)))
theorem ckOK.d2 {N : Int} {g : Nat → Int → Int} {v o : Int} (h : 0 ≤ v ∧ v < 320) : ckOK N g (v, 2, o) := Or.inr (Or.inr (Or.inr (Or.inr ⟨Or.inr rfl, h⟩)))
theorem ckOK.c {N : Int} {g : Nat → Int → Int} {c v o : Int} {K : Nat} (hK : K = 36 ∨ K = 45) (hx : c = (K : Int)) (h : 0 < v ∧ v < N ∧ g 0 v = (K : Int)) : ckOK N g (v, c, o) := Or.inl ⟨(by show c = 36 ∨ c = 45; omega), h.1, h.2.1, h.2.2.trans hx.symm⟩
def GQ (s : rS) (k : Nat) (g : Nat → Int → Int) : Prop := (∀ m, 0 < m → m < rF s k 7 → g 0 m = 40 → g 2 m ≤ 9000 → tr s k 2 m ≠ 0 ∧ zz s k (tr s k 2 m) (g 6 m)) ∧ ∀ j, 0 ≤ j → j < rF s (kq k) 38 → ckOK (rF s k 7) g (ck3 s (kq k) j)
theorem GQ.tf {s t : rS} {k : Nat} {g g' : Nat → Int → Int} (h : GQ s k g) (hN : rF s k 7 ≤ rF t k 7) (hC : rF t (kq k) 38 = rF s (kq k) 38) (hz : ∀ a n, a ≠ 0 → zz s k a n → zz t k a n) (hc : ∀ j, j < rF s (kq k) 38 → ck3 t (kq k) j = ck3 s (kq k) j) (h0 : ∀ m, 0 < m → m < rF s k 7 → g' 0 m = g 0 m) (hm : ∀ m, 0 < m → m < rF t k 7 → g' 0 m = 40 → g' 2 m ≤ 9000 → m < rF s k 7 ∧ g 2 m ≤ 9000 ∧ g' 6 m = g 6 m ∧ tr t k 2 m = tr s k 2 m) : GQ t k g' := by
  refine ⟨fun m m0 m1 m40 m2 => ?_, fun j j0 j1 => ?_⟩
  · obtain ⟨a, b, c, d⟩ := hm m m0 m1 m40 m2
    obtain ⟨e, f⟩ := h.1 m m0 a ((h0 m m0 a).symm.trans m40) b
    rw [c, d]; exact ⟨e, hz _ _ e f⟩
  · rw [hC] at j1
    rw [hc j j1]
    exact (h.2 j j0 j1).mv hN h0
theorem GQ.en {s t : rS} {k : Nat} {g g' : Nat → Int → Int} (hk : rgk k) (h : GQ s k g) (R : RG s t k 0) (hN : rF t k 7 = rF s k 7 + 1) (hC : rF t k 38 = rF s k 38) (h0 : ∀ j m, m < rF s k 7 → j ≠ 3 → j ≠ 5 → j ≠ 8 → g' j m = g j m) (h2 : g' 2 (rF s k 7) = 100000) : GQ t k g' := by
  refine GQ.tf h (by omega) (by rw [kq_k hk]; exact hC) R.2.1.2.1 R.2.1.2.2.2.2.2 (fun m _ m1 => h0 0 m m1 (by decide) (by decide) (by decide)) (fun m m0 m1 m40 m2 => ?_)
  have ml : m < rF s k 7 := by
    by_cases e : m = rF s k 7
    · rw [e] at m2; omega
    · omega
  exact ⟨ml, by rw [← h0 2 m ml (by decide) (by decide) (by decide)]; exact m2, h0 6 m ml (by decide) (by decide) (by decide), RG.f hk R (by decide) ml (Or.inr (Or.inl rfl))⟩
theorem GQ.rg {s t : rS} {k : Nat} {g : Nat → Int → Int} {c : Int} (hk : rgk k) (h : GQ s k g) (R : RG s t k c) (hN : rF t k 7 = rF s k 7) (hC : rF t k 38 = rF s k 38) (h2 : c = 0 ∨ tr t k 2 c = tr s k 2 c) : GQ t k g :=
  GQ.tf h (by omega) (by rw [kq_k hk]; exact hC) R.2.1.2.1 R.2.1.2.2.2.2.2 (fun _ _ _ => rfl) (fun m m0 m1 m40 m2 => ⟨by omega, m2, rfl, by
    by_cases e : m = c
    · rcases h2 with q | q
      · exact RG.f hk R (by decide) (by omega) (Or.inr (Or.inl q))
      · rw [e]; exact q
    · exact RG.f hk R (by decide) (by omega) (Or.inl e)⟩)
theorem GQ.stt {s : rS} {k f : Nat} {g : Nat → Int → Int} {i x : Int} (hk : rgk k) (hf : f < 6) (h : GQ s k g) (h2 : f ≠ 2 ∨ g 0 i ≠ 40 ∨ g 2 i = 100000) : GQ (sT s k f i x) k g :=
  GQ.tf h (Int.le_refl _) rfl (fun a n _ hz => by rw [zz_sT hf]; exact hz) (fun j _ => ck3_ne (by rw [kq_k hk]; omega)) (fun _ _ _ => rfl) (fun m m0 m1 m40 m2 => ⟨m1, m2, rfl, by rw [tr_sT hk hf, if_neg (fun e => by obtain ⟨e1, e2⟩ := e; subst e1 e2; omega)]⟩)
theorem GQ.ks {s : rS} {k fs f K : Nat} {g g' : Nat → Int → Int} {it v i x : Int} (hk : rgk k) (hf : fs < 6) (h : GQ s k g) (S : KS g g' it v f K) (h2 : g 2 it = 100000) (hst : fs ≠ 2 ∨ i = it) : GQ (sT s k fs i x) k g' := by
  obtain ⟨a1, a2, a3, a4, a5, a6, a7, a8⟩ := S
  have ej : ∀ j m, m ≠ it → j ≠ 3 → j ≠ 5 → j ≠ 8 → g' j m = g j m := fun j m hm j3 j5 j8 => by
    by_cases e : m = v
    · subst e; exact a2 j j3 j5 j8
    · exact a1 j m e hm
  refine GQ.tf (GQ.stt (f := fs) (i := i) (x := x) hk hf h (by rcases hst with q | q; exact Or.inl q; subst q; exact Or.inr (Or.inr h2))) (Int.le_refl _) rfl (fun _ _ _ q => q) (fun _ _ => rfl) (fun m _ _ => ?_) (fun m m0 m1 m40 m2 => ?_)
  · by_cases e : m = it
    · subst e; exact a3 0 (by decide) (by decide)
    · exact ej 0 m e (by decide) (by decide) (by decide)
  · have e : m ≠ it := fun e => by subst e; rw [a3 2 (by decide) (by decide)] at m2; omega
    exact ⟨m1, by rw [← ej 2 m e (by decide) (by decide) (by decide)]; exact m2, ej 6 m e (by decide) (by decide) (by decide), rfl⟩
theorem GQ.kc {s : rS} {k : Nat} {g g' : Nat → Int → Int} {it : Int} (h : GQ s k g) (C : KC g g' it) (hz : g' 2 it ≤ 9000 → g 0 it = 40 → tr s k 2 it ≠ 0 ∧ zz s k (tr s k 2 it) (g 6 it)) : GQ s k g' := by
  obtain ⟨c1, c2⟩ := C
  refine ⟨fun m m0 m1 m40 m2 => ?_, fun j j0 j1 => (h.2 j j0 j1).mv (Int.le_refl _) (fun m _ _ => c2 0 m (Or.inr (by decide)))⟩
  rw [c2 0 m (Or.inr (by decide))] at m40
  rw [c2 6 m (Or.inr (by decide))]
  by_cases e : m = it
  · subst e; exact hz m2 m40
  · rw [c2 2 m (Or.inl e)] at m2; exact h.1 m m0 m1 m40 m2
theorem GQ.kz {s : rS} {k : Nat} {g g' : Nat → Int → Int} {v F : Int} (h : GQ s k g) (Z : KZ g g' v F) : GQ s k g' := by
  obtain ⟨a1, a2, a3, a4, a5, a6⟩ := Z
  have ej : ∀ j m, j ≠ 3 → j ≠ 5 → j ≠ 8 → g' j m = g j m := fun j m j3 j5 j8 => by
    by_cases e : m = v
    · subst e; exact a6 j j3 j5 j8
    · exact a5 j m e
  exact GQ.tf h (Int.le_refl _) rfl (fun _ _ _ q => q) (fun _ _ => rfl) (fun m _ _ => ej 0 m (by decide) (by decide) (by decide)) (fun m m0 m1 m40 m2 => ⟨m1, by rw [← ej 2 m (by decide) (by decide) (by decide)]; exact m2, ej 6 m (by decide) (by decide) (by decide), rfl⟩)
theorem GQ.kz5 {s : rS} {k : Nat} {g g' : Nat → Int → Int} {v F l x : Int} (hk : rgk k) (h : GQ s k g) (Z : KZ g g' v F) : GQ (sT s k 5 l x) k g' := GQ.kz (GQ.stt hk (by decide) h (Or.inl (by decide))) Z
theorem GQ.g34 {s : rS} {k : Nat} {g : Nat → Int → Int} {i x : Int} (hk : rgk k) (h : GQ s k g) (h0 : rA s (1000 * (k + 1) + 34) i = 0) (h33 : rA s (1000 * (k + 1) + 33) i = 33) (hx : 0 ≤ x ∧ x < rF s k 7) : GQ (sA s (1000 * (k + 1) + 34) i x) k g := by
  have e7 := kq_k hk
  refine ⟨fun m m0 m1 m40 m2 => ?_, fun j j0 j1 => ?_⟩
  · obtain ⟨a, b⟩ := h.1 m m0 m1 m40 m2
    rw [tr_g34]
    refine ⟨a, ?_⟩
    obtain ⟨j, z1, z2, z3, z4, z5⟩ := b
    rw [e7] at z2 z3 z4 z5
    refine ⟨j, z1, ?_, ?_, ?_, ?_⟩ <;> rw [e7]
    · exact z2
    · rw [A_sA_ne (by omega)]; exact z3
    · rw [A_sA_ni (fun e => by subst e; rw [h0] at z4; exact a z4.symm)]; exact z4
    · rw [A_sA_ne (by omega)]; exact z5
  · have q := h.2 j j0 j1
    rw [e7] at *
    by_cases e : j = i
    · subst e
      unfold ckOK ck3
      rw [A_sA, A_sA_ne (by omega), A_sA_ne (by omega)]
      right; right; left; exact ⟨h33, hx⟩
    · have : ck3 (sA s (1000 * (k + 1) + 34) i x) k j = ck3 s k j := by unfold ck3; rw [A_sA_ni e, A_sA_ne (by omega), A_sA_ne (by omega)]
      rw [this]; exact q
theorem GQ.chk {s t : rS} {k : Nat} {g : Nat → Int → Int} {c v o : Int} (hk : rgk k) (h : GQ s k g) (R : RG s t k 0) (hN : rF t k 7 = rF s k 7) (hC : rF t k 38 = rF s k 38 + 1) (h33 : rA t (1000 * (k + 1) + 33) (rF s k 38) = c) (h34 : rA t (1000 * (k + 1) + 34) (rF s k 38) = v) (h35 : rA t (1000 * (k + 1) + 35) (rF s k 38) = o) (hc : ckOK (rF s k 7) g (v, c, o)) : GQ t k g := by
  have e7 := kq_k hk
  refine ⟨fun m m0 m1 m40 m2 => ?_, fun j j0 j1 => ?_⟩
  · obtain ⟨a, b⟩ := h.1 m m0 (by omega) m40 m2
    rw [RG.f hk R (by decide) (by omega) (Or.inr (Or.inl rfl))]
    exact ⟨a, R.2.1.2.1 _ _ a b⟩
  · rw [hN]
    by_cases e : j = rF s k 38
    · subst e; rw [e7]; unfold ck3; rw [h33, h34, h35]; exact hc
    · rw [R.2.1.2.2.2.2.2 j (by rw [e7] at *; omega)]; exact h.2 j j0 (by rw [e7] at *; omega)
/-- the nodes, the ZIPs, the checks of a group -/
def GS (s : rS) (k : Nat) (g : Nat → Int → Int) : Prop := GS0 s k g ∧ GQ s k g


theorem GS.mv {s t : rS} {k : Nat} {g : Nat → Int → Int} (hk : rgk k) (G : GS s k g) (R : RG s t k 0) (hN : rF t k 7 = rF s k 7 := by first | omega | (simp only [rF_sT, rF_sA]; omega)) (hn : rF s k 12 ≤ rF t k 12 := by first | omega | (simp only [rF_sT, rF_sA]; omega)) (hC : rF t k 38 = rF s k 38 := by first | assumption | omega | (simp only [rF_sT, rF_sA]; omega)) : GS t k g := ⟨GS0.mv hk G.1 R hN hn, GQ.rg hk G.2 R hN hC (Or.inl rfl)⟩
theorem GS.chk {s t : rS} {k : Nat} {g : Nat → Int → Int} {c v o : Int} (hk : rgk k) (G : GS s k g) (R : RG s t k 0) (hN : rF t k 7 = rF s k 7 := by first | omega | (simp only [rF_sT, rF_sA]; omega)) (hn : rF s k 12 ≤ rF t k 12 := by first | omega | (simp only [rF_sT, rF_sA]; omega)) (hC : rF t k 38 = rF s k 38 + 1) (h33 : rA t (1000 * (k + 1) + 33) (rF s k 38) = c) (h34 : rA t (1000 * (k + 1) + 34) (rF s k 38) = v) (h35 : rA t (1000 * (k + 1) + 35) (rF s k 38) = o) (hc : ckOK (rF s k 7) g (v, c, o)) : GS t k g := ⟨GS0.mv hk G.1 R hN hn, GQ.chk hk G.2 R hN hC h33 h34 h35 hc⟩
theorem GS.c3 {s t : rS} {k K : Nat} {g : Nat → Int → Int} {it d lo x y e : Int} (hk : rgk k) (G : GS s k g) (O : OP s k g it K d lo x y e) (hK : K = 36 ∨ K = 37 ∨ K = 45 ∨ K = 46) (R : RG s t k it) (h2 : tr t k 2 it = tr s k 2 it) (hN : rF t k 7 = rF s k 7 := by first | omega | (simp only [rF_sT, rF_sA]; omega)) (hn : rF s k 12 ≤ rF t k 12 := by first | omega | (simp only [rF_sT, rF_sA]; omega)) (hC : rF t k 38 = rF s k 38 := by first | assumption | omega | (simp only [rF_sT, rF_sA]; omega)) : GS t k g := ⟨GS0.c3 hk G.1 O hK R h2 hN hn, GQ.rg hk G.2 R hN hC (Or.inr h2)⟩
theorem GS.c4 {s : rS} {k K : Nat} {g : Nat → Int → Int} {it d lo x y e z : Int} (hk : rgk k) (G : GS s k g) (O : OP s k g it K d lo x y e) (hK : (K ≠ 4 ∧ K ≠ 6 ∧ K ≠ 7) ∨ rind z) : GS (sT s k 4 it z) k g := ⟨GS0.c4 hk G.1 O hK, GQ.stt hk (by decide) G.2 (Or.inl (by decide))⟩
theorem GS.g34 {s : rS} {k : Nat} {g : Nat → Int → Int} {i x : Int} (hk : rgk k) (G : GS s k g) (h0 : rA s (1000 * (k + 1) + 34) i = 0) (h33 : rA s (1000 * (k + 1) + 33) i = 33) (hx : 0 ≤ x ∧ x < rF s k 7) : GS (sA s (1000 * (k + 1) + 34) i x) k g := ⟨GS0.g34 G.1, GQ.g34 hk G.2 h0 h33 hx⟩
theorem GS.fst {s : rS} {k f K : Nat} {g : Nat → Int → Int} {it : Int} (G : GS s k g) (h0 : 0 < it) (h1 : it < rF s k 7) (hK : g 0 it = (K : Int)) (hf : tb f K ≠ 0 := by decide) (h52 : K ≠ 52 := by decide) : tr s k f it = 0 ∨ (0 < tr s k f it ∧ tr s k f it < rF s k 7 ∧ g 3 (tr s k f it) = it ∧ g 8 (tr s k f it) = (f : Int)) := GS0.fst G.1 h0 h1 hK hf h52
theorem GS.nxt {s : rS} {k f K : Nat} {g : Nat → Int → Int} {it o : Int} (G : GS s k g) (h0 : 0 < o) (h1 : o < rF s k 7) (h3 : g 3 o = it) (h8 : g 8 o = (f : Int)) (hit : 0 < it) (hK : g 0 it = (K : Int)) (h10 : tb f K ≠ 11 ∧ tb f K ≠ 12 ∧ tb f K ≠ 13 := by decide) : so (tb f K) (g 0 o) ∧ (tr s k 5 o = 0 ∨ (o < tr s k 5 o ∧ tr s k 5 o < rF s k 7 ∧ g 3 (tr s k 5 o) = it ∧ g 8 (tr s k 5 o) = (f : Int))) := GS0.nxt G.1 h0 h1 h3 h8 hit hK h10
theorem LI.pos {s : rS} {k : Nat} {g : Nat → Int → Int} {it l d lo x y e : Int} (G : GS s k g) (O : OP s k g it 44 d lo x y e) (L : LI s k g it 1 44 l) (hl : l ≠ 0) : 0 < g 6 it := LI.pos0 G.1 O L hl

theorem GQ_F0 {σ : rS} {k : Nat} {x : Int} : GQ (sF σ 0 0 x) k = GQ σ k := by funext g; unfold GQ; rw [F_sF_ne (show (7 : Nat) ≠ 0 by decide), F_sF_nq kq_0, tr_sF, zz_sF]; rfl
theorem GS_F0 {σ : rS} {k : Nat} {x : Int} : GS (sF σ 0 0 x) k = GS σ k := by funext g; unfold GS; rw [GS0_F0, GQ_F0]
theorem GQ_a1 {σ : rS} {k : Nat} {i x : Int} : GQ (sA σ 1001 i x) k = GQ σ k := by funext g; unfold GQ; simp only [rF_sA, tr_a1, zz_out (show 1001 < 2000 ∨ _ from Or.inl (by decide)), ck3_out (show 1001 < 2000 ∨ _ from Or.inl (by decide))]
theorem GS_a1 {σ : rS} {k : Nat} {i x : Int} : GS (sA σ 1001 i x) k = GS σ k := by funext g; unfold GS; rw [GS0_a1, GQ_a1]
theorem GQ_a2 {σ : rS} {k : Nat} {i x : Int} : GQ (sA σ 1002 i x) k = GQ σ k := by funext g; unfold GQ; simp only [rF_sA, tr_a2, zz_out (show 1002 < 2000 ∨ _ from Or.inl (by decide)), ck3_out (show 1002 < 2000 ∨ _ from Or.inl (by decide))]
theorem GS_a2 {σ : rS} {k : Nat} {i x : Int} : GS (sA σ 1002 i x) k = GS σ k := by funext g; unfold GS; rw [GS0_a2, GQ_a2]
theorem GQ_F3 {σ : rS} {k : Nat} {x : Int} : GQ (sF σ 0 3 x) k = GQ σ k := by funext g; unfold GQ; rw [F_sF_ne (show (7 : Nat) ≠ 3 by decide), F_sF_nq kq_0, tr_sF, zz_sF]; rfl
theorem GS_F3 {σ : rS} {k : Nat} {x : Int} : GS (sF σ 0 3 x) k = GS σ k := by funext g; unfold GS; rw [GS0_F3, GQ_F3]
theorem GQ_a5 {σ : rS} {k : Nat} {i x : Int} : GQ (sA σ 1005 i x) k = GQ σ k := by funext g; unfold GQ; simp only [rF_sA, tr_a5, zz_out (show 1005 < 2000 ∨ _ from Or.inl (by decide)), ck3_out (show 1005 < 2000 ∨ _ from Or.inl (by decide))]
theorem GS_a5 {σ : rS} {k : Nat} {i x : Int} : GS (sA σ 1005 i x) k = GS σ k := by funext g; unfold GS; rw [GS0_a5, GQ_a5]
theorem GQ_F10 {σ : rS} {k : Nat} {x : Int} : GQ (sF σ 0 10 x) k = GQ σ k := by funext g; unfold GQ; rw [F_sF_ne (show (7 : Nat) ≠ 10 by decide), F_sF_nq kq_0, tr_sF, zz_sF]; rfl
theorem GS_F10 {σ : rS} {k : Nat} {x : Int} : GS (sF σ 0 10 x) k = GS σ k := by funext g; unfold GS; rw [GS0_F10, GQ_F10]
theorem GQ_F11 {σ : rS} {k : Nat} {x : Int} : GQ (sF σ 0 11 x) k = GQ σ k := by funext g; unfold GQ; rw [F_sF_ne (show (7 : Nat) ≠ 11 by decide), F_sF_nq kq_0, tr_sF, zz_sF]; rfl
theorem GS_F11 {σ : rS} {k : Nat} {x : Int} : GS (sF σ 0 11 x) k = GS σ k := by funext g; unfold GS; rw [GS0_F11, GQ_F11]
theorem GQ_F13 {σ : rS} {k : Nat} {x : Int} : GQ (sF σ 0 13 x) k = GQ σ k := by funext g; unfold GQ; rw [F_sF_ne (show (7 : Nat) ≠ 13 by decide), F_sF_nq kq_0, tr_sF, zz_sF]; rfl
theorem GS_F13 {σ : rS} {k : Nat} {x : Int} : GS (sF σ 0 13 x) k = GS σ k := by funext g; unfold GS; rw [GS0_F13, GQ_F13]
theorem GQ_F14 {σ : rS} {k : Nat} {x : Int} : GQ (sF σ 0 14 x) k = GQ σ k := by funext g; unfold GQ; rw [F_sF_ne (show (7 : Nat) ≠ 14 by decide), F_sF_nq kq_0, tr_sF, zz_sF]; rfl
theorem GS_F14 {σ : rS} {k : Nat} {x : Int} : GS (sF σ 0 14 x) k = GS σ k := by funext g; unfold GS; rw [GS0_F14, GQ_F14]
theorem GQ_F16 {σ : rS} {k : Nat} {x : Int} : GQ (sF σ 0 16 x) k = GQ σ k := by funext g; unfold GQ; rw [F_sF_ne (show (7 : Nat) ≠ 16 by decide), F_sF_nq kq_0, tr_sF, zz_sF]; rfl
theorem GS_F16 {σ : rS} {k : Nat} {x : Int} : GS (sF σ 0 16 x) k = GS σ k := by funext g; unfold GS; rw [GS0_F16, GQ_F16]
theorem GQ_F17 {σ : rS} {k : Nat} {x : Int} : GQ (sF σ 0 17 x) k = GQ σ k := by funext g; unfold GQ; rw [F_sF_ne (show (7 : Nat) ≠ 17 by decide), F_sF_nq kq_0, tr_sF, zz_sF]; rfl
theorem GS_F17 {σ : rS} {k : Nat} {x : Int} : GS (sF σ 0 17 x) k = GS σ k := by funext g; unfold GS; rw [GS0_F17, GQ_F17]
theorem GQ_F18 {σ : rS} {k : Nat} {x : Int} : GQ (sF σ 0 18 x) k = GQ σ k := by funext g; unfold GQ; rw [F_sF_ne (show (7 : Nat) ≠ 18 by decide), F_sF_nq kq_0, tr_sF, zz_sF]; rfl
theorem GS_F18 {σ : rS} {k : Nat} {x : Int} : GS (sF σ 0 18 x) k = GS σ k := by funext g; unfold GS; rw [GS0_F18, GQ_F18]
theorem GQ_F19 {σ : rS} {k : Nat} {x : Int} : GQ (sF σ 0 19 x) k = GQ σ k := by funext g; unfold GQ; rw [F_sF_ne (show (7 : Nat) ≠ 19 by decide), F_sF_nq kq_0, tr_sF, zz_sF]; rfl
theorem GS_F19 {σ : rS} {k : Nat} {x : Int} : GS (sF σ 0 19 x) k = GS σ k := by funext g; unfold GS; rw [GS0_F19, GQ_F19]
theorem GQ_a20 {σ : rS} {k : Nat} {i x : Int} : GQ (sA σ 1020 i x) k = GQ σ k := by funext g; unfold GQ; simp only [rF_sA, tr_a20, zz_out (show 1020 < 2000 ∨ _ from Or.inl (by decide)), ck3_out (show 1020 < 2000 ∨ _ from Or.inl (by decide))]
theorem GS_a20 {σ : rS} {k : Nat} {i x : Int} : GS (sA σ 1020 i x) k = GS σ k := by funext g; unfold GS; rw [GS0_a20, GQ_a20]
theorem GQ_F21 {σ : rS} {k : Nat} {x : Int} : GQ (sF σ 0 21 x) k = GQ σ k := by funext g; unfold GQ; rw [F_sF_ne (show (7 : Nat) ≠ 21 by decide), F_sF_nq kq_0, tr_sF, zz_sF]; rfl
theorem GS_F21 {σ : rS} {k : Nat} {x : Int} : GS (sF σ 0 21 x) k = GS σ k := by funext g; unfold GS; rw [GS0_F21, GQ_F21]
theorem GQ_F22 {σ : rS} {k : Nat} {x : Int} : GQ (sF σ 0 22 x) k = GQ σ k := by funext g; unfold GQ; rw [F_sF_ne (show (7 : Nat) ≠ 22 by decide), F_sF_nq kq_0, tr_sF, zz_sF]; rfl
theorem GS_F22 {σ : rS} {k : Nat} {x : Int} : GS (sF σ 0 22 x) k = GS σ k := by funext g; unfold GS; rw [GS0_F22, GQ_F22]
theorem GQ_F23 {σ : rS} {k : Nat} {x : Int} : GQ (sF σ 0 23 x) k = GQ σ k := by funext g; unfold GQ; rw [F_sF_ne (show (7 : Nat) ≠ 23 by decide), F_sF_nq kq_0, tr_sF, zz_sF]; rfl
theorem GS_F23 {σ : rS} {k : Nat} {x : Int} : GS (sF σ 0 23 x) k = GS σ k := by funext g; unfold GS; rw [GS0_F23, GQ_F23]
theorem GQ_F24 {σ : rS} {k : Nat} {x : Int} : GQ (sF σ 0 24 x) k = GQ σ k := by funext g; unfold GQ; rw [F_sF_ne (show (7 : Nat) ≠ 24 by decide), F_sF_nq kq_0, tr_sF, zz_sF]; rfl
theorem GS_F24 {σ : rS} {k : Nat} {x : Int} : GS (sF σ 0 24 x) k = GS σ k := by funext g; unfold GS; rw [GS0_F24, GQ_F24]
theorem GQ_F25 {σ : rS} {k : Nat} {x : Int} : GQ (sF σ 0 25 x) k = GQ σ k := by funext g; unfold GQ; rw [F_sF_ne (show (7 : Nat) ≠ 25 by decide), F_sF_nq kq_0, tr_sF, zz_sF]; rfl
theorem GS_F25 {σ : rS} {k : Nat} {x : Int} : GS (sF σ 0 25 x) k = GS σ k := by funext g; unfold GS; rw [GS0_F25, GQ_F25]
theorem GQ_a26 {σ : rS} {k : Nat} {i x : Int} : GQ (sA σ 1026 i x) k = GQ σ k := by funext g; unfold GQ; simp only [rF_sA, tr_a26, zz_out (show 1026 < 2000 ∨ _ from Or.inl (by decide)), ck3_out (show 1026 < 2000 ∨ _ from Or.inl (by decide))]
theorem GS_a26 {σ : rS} {k : Nat} {i x : Int} : GS (sA σ 1026 i x) k = GS σ k := by funext g; unfold GS; rw [GS0_a26, GQ_a26]
theorem GQ_a27 {σ : rS} {k : Nat} {i x : Int} : GQ (sA σ 1027 i x) k = GQ σ k := by funext g; unfold GQ; simp only [rF_sA, tr_a27, zz_out (show 1027 < 2000 ∨ _ from Or.inl (by decide)), ck3_out (show 1027 < 2000 ∨ _ from Or.inl (by decide))]
theorem GS_a27 {σ : rS} {k : Nat} {i x : Int} : GS (sA σ 1027 i x) k = GS σ k := by funext g; unfold GS; rw [GS0_a27, GQ_a27]
theorem GQ_F28 {σ : rS} {k : Nat} {x : Int} : GQ (sF σ 0 28 x) k = GQ σ k := by funext g; unfold GQ; rw [F_sF_ne (show (7 : Nat) ≠ 28 by decide), F_sF_nq kq_0, tr_sF, zz_sF]; rfl
theorem GS_F28 {σ : rS} {k : Nat} {x : Int} : GS (sF σ 0 28 x) k = GS σ k := by funext g; unfold GS; rw [GS0_F28, GQ_F28]
theorem GQ_F29 {σ : rS} {k : Nat} {x : Int} : GQ (sF σ 0 29 x) k = GQ σ k := by funext g; unfold GQ; rw [F_sF_ne (show (7 : Nat) ≠ 29 by decide), F_sF_nq kq_0, tr_sF, zz_sF]; rfl
theorem GS_F29 {σ : rS} {k : Nat} {x : Int} : GS (sF σ 0 29 x) k = GS σ k := by funext g; unfold GS; rw [GS0_F29, GQ_F29]
theorem GQ_F30 {σ : rS} {k : Nat} {x : Int} : GQ (sF σ 0 30 x) k = GQ σ k := by funext g; unfold GQ; rw [F_sF_ne (show (7 : Nat) ≠ 30 by decide), F_sF_nq kq_0, tr_sF, zz_sF]; rfl
theorem GS_F30 {σ : rS} {k : Nat} {x : Int} : GS (sF σ 0 30 x) k = GS σ k := by funext g; unfold GS; rw [GS0_F30, GQ_F30]
theorem GQ_F31 {σ : rS} {k : Nat} {x : Int} : GQ (sF σ 0 31 x) k = GQ σ k := by funext g; unfold GQ; rw [F_sF_ne (show (7 : Nat) ≠ 31 by decide), F_sF_nq kq_0, tr_sF, zz_sF]; rfl
theorem GS_F31 {σ : rS} {k : Nat} {x : Int} : GS (sF σ 0 31 x) k = GS σ k := by funext g; unfold GS; rw [GS0_F31, GQ_F31]
theorem GQ_F32 {σ : rS} {k : Nat} {x : Int} : GQ (sF σ 0 32 x) k = GQ σ k := by funext g; unfold GQ; rw [F_sF_ne (show (7 : Nat) ≠ 32 by decide), F_sF_nq kq_0, tr_sF, zz_sF]; rfl
theorem GS_F32 {σ : rS} {k : Nat} {x : Int} : GS (sF σ 0 32 x) k = GS σ k := by funext g; unfold GS; rw [GS0_F32, GQ_F32]
theorem GQ_F33 {σ : rS} {k : Nat} {x : Int} : GQ (sF σ 0 33 x) k = GQ σ k := by funext g; unfold GQ; rw [F_sF_ne (show (7 : Nat) ≠ 33 by decide), F_sF_nq kq_0, tr_sF, zz_sF]; rfl
theorem GS_F33 {σ : rS} {k : Nat} {x : Int} : GS (sF σ 0 33 x) k = GS σ k := by funext g; unfold GS; rw [GS0_F33, GQ_F33]
theorem GQ_a34 {σ : rS} {k : Nat} {i x : Int} : GQ (sA σ 1034 i x) k = GQ σ k := by funext g; unfold GQ; simp only [rF_sA, tr_a34, zz_out (show 1034 < 2000 ∨ _ from Or.inl (by decide)), ck3_out (show 1034 < 2000 ∨ _ from Or.inl (by decide))]
theorem GS_a34 {σ : rS} {k : Nat} {i x : Int} : GS (sA σ 1034 i x) k = GS σ k := by funext g; unfold GS; rw [GS0_a34, GQ_a34]
theorem GQ_a35 {σ : rS} {k : Nat} {i x : Int} : GQ (sA σ 1035 i x) k = GQ σ k := by funext g; unfold GQ; simp only [rF_sA, tr_a35, zz_out (show 1035 < 2000 ∨ _ from Or.inl (by decide)), ck3_out (show 1035 < 2000 ∨ _ from Or.inl (by decide))]
theorem GS_a35 {σ : rS} {k : Nat} {i x : Int} : GS (sA σ 1035 i x) k = GS σ k := by funext g; unfold GS; rw [GS0_a35, GQ_a35]
theorem GQ_a36 {σ : rS} {k : Nat} {i x : Int} : GQ (sA σ 1036 i x) k = GQ σ k := by funext g; unfold GQ; simp only [rF_sA, tr_a36, zz_out (show 1036 < 2000 ∨ _ from Or.inl (by decide)), ck3_out (show 1036 < 2000 ∨ _ from Or.inl (by decide))]
theorem GS_a36 {σ : rS} {k : Nat} {i x : Int} : GS (sA σ 1036 i x) k = GS σ k := by funext g; unfold GS; rw [GS0_a36, GQ_a36]
theorem GQ_a37 {σ : rS} {k : Nat} {i x : Int} : GQ (sA σ 1037 i x) k = GQ σ k := by funext g; unfold GQ; simp only [rF_sA, tr_a37, zz_out (show 1037 < 2000 ∨ _ from Or.inl (by decide)), ck3_out (show 1037 < 2000 ∨ _ from Or.inl (by decide))]
theorem GS_a37 {σ : rS} {k : Nat} {i x : Int} : GS (sA σ 1037 i x) k = GS σ k := by funext g; unfold GS; rw [GS0_a37, GQ_a37]
theorem GQ_F38 {σ : rS} {k : Nat} {x : Int} : GQ (sF σ 0 38 x) k = GQ σ k := by funext g; unfold GQ; rw [F_sF_ne (show (7 : Nat) ≠ 38 by decide), F_sF_nq kq_0, tr_sF, zz_sF]; rfl
theorem GS_F38 {σ : rS} {k : Nat} {x : Int} : GS (sF σ 0 38 x) k = GS σ k := by funext g; unfold GS; rw [GS0_F38, GQ_F38]
theorem GQ_F39 {σ : rS} {k : Nat} {x : Int} : GQ (sF σ 0 39 x) k = GQ σ k := by funext g; unfold GQ; rw [F_sF_ne (show (7 : Nat) ≠ 39 by decide), F_sF_nq kq_0, tr_sF, zz_sF]; rfl
theorem GS_F39 {σ : rS} {k : Nat} {x : Int} : GS (sF σ 0 39 x) k = GS σ k := by funext g; unfold GS; rw [GS0_F39, GQ_F39]
theorem GQ_a40 {σ : rS} {k : Nat} {i x : Int} : GQ (sA σ 1040 i x) k = GQ σ k := by funext g; unfold GQ; simp only [rF_sA, tr_a40, zz_out (show 1040 < 2000 ∨ _ from Or.inl (by decide)), ck3_out (show 1040 < 2000 ∨ _ from Or.inl (by decide))]
theorem GS_a40 {σ : rS} {k : Nat} {i x : Int} : GS (sA σ 1040 i x) k = GS σ k := by funext g; unfold GS; rw [GS0_a40, GQ_a40]
theorem GQ_F41 {σ : rS} {k : Nat} {x : Int} : GQ (sF σ 0 41 x) k = GQ σ k := by funext g; unfold GQ; rw [F_sF_ne (show (7 : Nat) ≠ 41 by decide), F_sF_nq kq_0, tr_sF, zz_sF]; rfl
theorem GS_F41 {σ : rS} {k : Nat} {x : Int} : GS (sF σ 0 41 x) k = GS σ k := by funext g; unfold GS; rw [GS0_F41, GQ_F41]
theorem GQ_F42 {σ : rS} {k : Nat} {x : Int} : GQ (sF σ 0 42 x) k = GQ σ k := by funext g; unfold GQ; rw [F_sF_ne (show (7 : Nat) ≠ 42 by decide), F_sF_nq kq_0, tr_sF, zz_sF]; rfl
theorem GS_F42 {σ : rS} {k : Nat} {x : Int} : GS (sF σ 0 42 x) k = GS σ k := by funext g; unfold GS; rw [GS0_F42, GQ_F42]
theorem GQ_F43 {σ : rS} {k : Nat} {x : Int} : GQ (sF σ 0 43 x) k = GQ σ k := by funext g; unfold GQ; rw [F_sF_ne (show (7 : Nat) ≠ 43 by decide), F_sF_nq kq_0, tr_sF, zz_sF]; rfl
theorem GS_F43 {σ : rS} {k : Nat} {x : Int} : GS (sF σ 0 43 x) k = GS σ k := by funext g; unfold GS; rw [GS0_F43, GQ_F43]
theorem GQ_F44 {σ : rS} {k : Nat} {x : Int} : GQ (sF σ 0 44 x) k = GQ σ k := by funext g; unfold GQ; rw [F_sF_ne (show (7 : Nat) ≠ 44 by decide), F_sF_nq kq_0, tr_sF, zz_sF]; rfl
theorem GS_F44 {σ : rS} {k : Nat} {x : Int} : GS (sF σ 0 44 x) k = GS σ k := by funext g; unfold GS; rw [GS0_F44, GQ_F44]
theorem GQ_F45 {σ : rS} {k : Nat} {x : Int} : GQ (sF σ 0 45 x) k = GQ σ k := by funext g; unfold GQ; rw [F_sF_ne (show (7 : Nat) ≠ 45 by decide), F_sF_nq kq_0, tr_sF, zz_sF]; rfl
theorem GS_F45 {σ : rS} {k : Nat} {x : Int} : GS (sF σ 0 45 x) k = GS σ k := by funext g; unfold GS; rw [GS0_F45, GQ_F45]
theorem GQ_a46 {σ : rS} {k : Nat} {i x : Int} : GQ (sA σ 1046 i x) k = GQ σ k := by funext g; unfold GQ; simp only [rF_sA, tr_a46, zz_out (show 1046 < 2000 ∨ _ from Or.inl (by decide)), ck3_out (show 1046 < 2000 ∨ _ from Or.inl (by decide))]
theorem GS_a46 {σ : rS} {k : Nat} {i x : Int} : GS (sA σ 1046 i x) k = GS σ k := by funext g; unfold GS; rw [GS0_a46, GQ_a46]
theorem GQ_a47 {σ : rS} {k : Nat} {i x : Int} : GQ (sA σ 1047 i x) k = GQ σ k := by funext g; unfold GQ; simp only [rF_sA, tr_a47, zz_out (show 1047 < 2000 ∨ _ from Or.inl (by decide)), ck3_out (show 1047 < 2000 ∨ _ from Or.inl (by decide))]
theorem GS_a47 {σ : rS} {k : Nat} {i x : Int} : GS (sA σ 1047 i x) k = GS σ k := by funext g; unfold GS; rw [GS0_a47, GQ_a47]
theorem GQ_a48 {σ : rS} {k : Nat} {i x : Int} : GQ (sA σ 1048 i x) k = GQ σ k := by funext g; unfold GQ; simp only [rF_sA, tr_a48, zz_out (show 1048 < 2000 ∨ _ from Or.inl (by decide)), ck3_out (show 1048 < 2000 ∨ _ from Or.inl (by decide))]
theorem GS_a48 {σ : rS} {k : Nat} {i x : Int} : GS (sA σ 1048 i x) k = GS σ k := by funext g; unfold GS; rw [GS0_a48, GQ_a48]
theorem GQ_a49 {σ : rS} {k : Nat} {i x : Int} : GQ (sA σ 1049 i x) k = GQ σ k := by funext g; unfold GQ; simp only [rF_sA, tr_a49, zz_out (show 1049 < 2000 ∨ _ from Or.inl (by decide)), ck3_out (show 1049 < 2000 ∨ _ from Or.inl (by decide))]
theorem GS_a49 {σ : rS} {k : Nat} {i x : Int} : GS (sA σ 1049 i x) k = GS σ k := by funext g; unfold GS; rw [GS0_a49, GQ_a49]
theorem GQ_a50 {σ : rS} {k : Nat} {i x : Int} : GQ (sA σ 1050 i x) k = GQ σ k := by funext g; unfold GQ; simp only [rF_sA, tr_a50, zz_out (show 1050 < 2000 ∨ _ from Or.inl (by decide)), ck3_out (show 1050 < 2000 ∨ _ from Or.inl (by decide))]
theorem GS_a50 {σ : rS} {k : Nat} {i x : Int} : GS (sA σ 1050 i x) k = GS σ k := by funext g; unfold GS; rw [GS0_a50, GQ_a50]
theorem GQ_a51 {σ : rS} {k : Nat} {i x : Int} : GQ (sA σ 1051 i x) k = GQ σ k := by funext g; unfold GQ; simp only [rF_sA, tr_a51, zz_out (show 1051 < 2000 ∨ _ from Or.inl (by decide)), ck3_out (show 1051 < 2000 ∨ _ from Or.inl (by decide))]
theorem GS_a51 {σ : rS} {k : Nat} {i x : Int} : GS (sA σ 1051 i x) k = GS σ k := by funext g; unfold GS; rw [GS0_a51, GQ_a51]
theorem GQ_a52 {σ : rS} {k : Nat} {i x : Int} : GQ (sA σ 1052 i x) k = GQ σ k := by funext g; unfold GQ; simp only [rF_sA, tr_a52, zz_out (show 1052 < 2000 ∨ _ from Or.inl (by decide)), ck3_out (show 1052 < 2000 ∨ _ from Or.inl (by decide))]
theorem GS_a52 {σ : rS} {k : Nat} {i x : Int} : GS (sA σ 1052 i x) k = GS σ k := by funext g; unfold GS; rw [GS0_a52, GQ_a52]
theorem GQ_a53 {σ : rS} {k : Nat} {i x : Int} : GQ (sA σ 1053 i x) k = GQ σ k := by funext g; unfold GQ; simp only [rF_sA, tr_a53, zz_out (show 1053 < 2000 ∨ _ from Or.inl (by decide)), ck3_out (show 1053 < 2000 ∨ _ from Or.inl (by decide))]
theorem GS_a53 {σ : rS} {k : Nat} {i x : Int} : GS (sA σ 1053 i x) k = GS σ k := by funext g; unfold GS; rw [GS0_a53, GQ_a53]
theorem GQ_a54 {σ : rS} {k : Nat} {i x : Int} : GQ (sA σ 1054 i x) k = GQ σ k := by funext g; unfold GQ; simp only [rF_sA, tr_a54, zz_out (show 1054 < 2000 ∨ _ from Or.inl (by decide)), ck3_out (show 1054 < 2000 ∨ _ from Or.inl (by decide))]
theorem GS_a54 {σ : rS} {k : Nat} {i x : Int} : GS (sA σ 1054 i x) k = GS σ k := by funext g; unfold GS; rw [GS0_a54, GQ_a54]
theorem GQ_a55 {σ : rS} {k : Nat} {i x : Int} : GQ (sA σ 1055 i x) k = GQ σ k := by funext g; unfold GQ; simp only [rF_sA, tr_a55, zz_out (show 1055 < 2000 ∨ _ from Or.inl (by decide)), ck3_out (show 1055 < 2000 ∨ _ from Or.inl (by decide))]
theorem GS_a55 {σ : rS} {k : Nat} {i x : Int} : GS (sA σ 1055 i x) k = GS σ k := by funext g; unfold GS; rw [GS0_a55, GQ_a55]
theorem GQ_a56 {σ : rS} {k : Nat} {i x : Int} : GQ (sA σ 1056 i x) k = GQ σ k := by funext g; unfold GQ; simp only [rF_sA, tr_a56, zz_out (show 1056 < 2000 ∨ _ from Or.inl (by decide)), ck3_out (show 1056 < 2000 ∨ _ from Or.inl (by decide))]
theorem GS_a56 {σ : rS} {k : Nat} {i x : Int} : GS (sA σ 1056 i x) k = GS σ k := by funext g; unfold GS; rw [GS0_a56, GQ_a56]
theorem GQ_a57 {σ : rS} {k : Nat} {i x : Int} : GQ (sA σ 1057 i x) k = GQ σ k := by funext g; unfold GQ; simp only [rF_sA, tr_a57, zz_out (show 1057 < 2000 ∨ _ from Or.inl (by decide)), ck3_out (show 1057 < 2000 ∨ _ from Or.inl (by decide))]
theorem GS_a57 {σ : rS} {k : Nat} {i x : Int} : GS (sA σ 1057 i x) k = GS σ k := by funext g; unfold GS; rw [GS0_a57, GQ_a57]
theorem GQ_a58 {σ : rS} {k : Nat} {i x : Int} : GQ (sA σ 1058 i x) k = GQ σ k := by funext g; unfold GQ; simp only [rF_sA, tr_a58, zz_out (show 1058 < 2000 ∨ _ from Or.inl (by decide)), ck3_out (show 1058 < 2000 ∨ _ from Or.inl (by decide))]
theorem GS_a58 {σ : rS} {k : Nat} {i x : Int} : GS (sA σ 1058 i x) k = GS σ k := by funext g; unfold GS; rw [GS0_a58, GQ_a58]
theorem GQ_a59 {σ : rS} {k : Nat} {i x : Int} : GQ (sA σ 1059 i x) k = GQ σ k := by funext g; unfold GQ; simp only [rF_sA, tr_a59, zz_out (show 1059 < 2000 ∨ _ from Or.inl (by decide)), ck3_out (show 1059 < 2000 ∨ _ from Or.inl (by decide))]
theorem GS_a59 {σ : rS} {k : Nat} {i x : Int} : GS (sA σ 1059 i x) k = GS σ k := by funext g; unfold GS; rw [GS0_a59, GQ_a59]
theorem GQ_F60 {σ : rS} {k : Nat} {x : Int} : GQ (sF σ 0 60 x) k = GQ σ k := by funext g; unfold GQ; rw [F_sF_ne (show (7 : Nat) ≠ 60 by decide), F_sF_nq kq_0, tr_sF, zz_sF]; rfl
theorem GS_F60 {σ : rS} {k : Nat} {x : Int} : GS (sF σ 0 60 x) k = GS σ k := by funext g; unfold GS; rw [GS0_F60, GQ_F60]
theorem GQ_a61 {σ : rS} {k : Nat} {i x : Int} : GQ (sA σ 1061 i x) k = GQ σ k := by funext g; unfold GQ; simp only [rF_sA, tr_a61, zz_out (show 1061 < 2000 ∨ _ from Or.inl (by decide)), ck3_out (show 1061 < 2000 ∨ _ from Or.inl (by decide))]
theorem GS_a61 {σ : rS} {k : Nat} {i x : Int} : GS (sA σ 1061 i x) k = GS σ k := by funext g; unfold GS; rw [GS0_a61, GQ_a61]
theorem GQ_a62 {σ : rS} {k : Nat} {i x : Int} : GQ (sA σ 1062 i x) k = GQ σ k := by funext g; unfold GQ; simp only [rF_sA, tr_a62, zz_out (show 1062 < 2000 ∨ _ from Or.inl (by decide)), ck3_out (show 1062 < 2000 ∨ _ from Or.inl (by decide))]
theorem GS_a62 {σ : rS} {k : Nat} {i x : Int} : GS (sA σ 1062 i x) k = GS σ k := by funext g; unfold GS; rw [GS0_a62, GQ_a62]
theorem GQ_a63 {σ : rS} {k : Nat} {i x : Int} : GQ (sA σ 1063 i x) k = GQ σ k := by funext g; unfold GQ; simp only [rF_sA, tr_a63, zz_out (show 1063 < 2000 ∨ _ from Or.inl (by decide)), ck3_out (show 1063 < 2000 ∨ _ from Or.inl (by decide))]
theorem GS_a63 {σ : rS} {k : Nat} {i x : Int} : GS (sA σ 1063 i x) k = GS σ k := by funext g; unfold GS; rw [GS0_a63, GQ_a63]
theorem GQ_a64 {σ : rS} {k : Nat} {i x : Int} : GQ (sA σ 1064 i x) k = GQ σ k := by funext g; unfold GQ; simp only [rF_sA, tr_a64, zz_out (show 1064 < 2000 ∨ _ from Or.inl (by decide)), ck3_out (show 1064 < 2000 ∨ _ from Or.inl (by decide))]
theorem GS_a64 {σ : rS} {k : Nat} {i x : Int} : GS (sA σ 1064 i x) k = GS σ k := by funext g; unfold GS; rw [GS0_a64, GQ_a64]
theorem GQ_F65 {σ : rS} {k : Nat} {x : Int} : GQ (sF σ 0 65 x) k = GQ σ k := by funext g; unfold GQ; rw [F_sF_ne (show (7 : Nat) ≠ 65 by decide), F_sF_nq kq_0, tr_sF, zz_sF]; rfl
theorem GS_F65 {σ : rS} {k : Nat} {x : Int} : GS (sF σ 0 65 x) k = GS σ k := by funext g; unfold GS; rw [GS0_F65, GQ_F65]
theorem GQ_F66 {σ : rS} {k : Nat} {x : Int} : GQ (sF σ 0 66 x) k = GQ σ k := by funext g; unfold GQ; rw [F_sF_ne (show (7 : Nat) ≠ 66 by decide), F_sF_nq kq_0, tr_sF, zz_sF]; rfl
theorem GS_F66 {σ : rS} {k : Nat} {x : Int} : GS (sF σ 0 66 x) k = GS σ k := by funext g; unfold GS; rw [GS0_F66, GQ_F66]
theorem GQ_F67 {σ : rS} {k : Nat} {x : Int} : GQ (sF σ 0 67 x) k = GQ σ k := by funext g; unfold GQ; rw [F_sF_ne (show (7 : Nat) ≠ 67 by decide), F_sF_nq kq_0, tr_sF, zz_sF]; rfl
theorem GS_F67 {σ : rS} {k : Nat} {x : Int} : GS (sF σ 0 67 x) k = GS σ k := by funext g; unfold GS; rw [GS0_F67, GQ_F67]
theorem GQ_F68 {σ : rS} {k : Nat} {x : Int} : GQ (sF σ 0 68 x) k = GQ σ k := by funext g; unfold GQ; rw [F_sF_ne (show (7 : Nat) ≠ 68 by decide), F_sF_nq kq_0, tr_sF, zz_sF]; rfl
theorem GS_F68 {σ : rS} {k : Nat} {x : Int} : GS (sF σ 0 68 x) k = GS σ k := by funext g; unfold GS; rw [GS0_F68, GQ_F68]
theorem GQ_a69 {σ : rS} {k : Nat} {i x : Int} : GQ (sA σ 1069 i x) k = GQ σ k := by funext g; unfold GQ; simp only [rF_sA, tr_a69, zz_out (show 1069 < 2000 ∨ _ from Or.inl (by decide)), ck3_out (show 1069 < 2000 ∨ _ from Or.inl (by decide))]
theorem GS_a69 {σ : rS} {k : Nat} {i x : Int} : GS (sA σ 1069 i x) k = GS σ k := by funext g; unfold GS; rw [GS0_a69, GQ_a69]
theorem GQ_F70 {σ : rS} {k : Nat} {x : Int} : GQ (sF σ 0 70 x) k = GQ σ k := by funext g; unfold GQ; rw [F_sF_ne (show (7 : Nat) ≠ 70 by decide), F_sF_nq kq_0, tr_sF, zz_sF]; rfl
theorem GS_F70 {σ : rS} {k : Nat} {x : Int} : GS (sF σ 0 70 x) k = GS σ k := by funext g; unfold GS; rw [GS0_F70, GQ_F70]
theorem GQ_F71 {σ : rS} {k : Nat} {x : Int} : GQ (sF σ 0 71 x) k = GQ σ k := by funext g; unfold GQ; rw [F_sF_ne (show (7 : Nat) ≠ 71 by decide), F_sF_nq kq_0, tr_sF, zz_sF]; rfl
theorem GS_F71 {σ : rS} {k : Nat} {x : Int} : GS (sF σ 0 71 x) k = GS σ k := by funext g; unfold GS; rw [GS0_F71, GQ_F71]
theorem GQ_F72 {σ : rS} {k : Nat} {x : Int} : GQ (sF σ 0 72 x) k = GQ σ k := by funext g; unfold GQ; rw [F_sF_ne (show (7 : Nat) ≠ 72 by decide), F_sF_nq kq_0, tr_sF, zz_sF]; rfl
theorem GS_F72 {σ : rS} {k : Nat} {x : Int} : GS (sF σ 0 72 x) k = GS σ k := by funext g; unfold GS; rw [GS0_F72, GQ_F72]
theorem GQ_F73 {σ : rS} {k : Nat} {x : Int} : GQ (sF σ 0 73 x) k = GQ σ k := by funext g; unfold GQ; rw [F_sF_ne (show (7 : Nat) ≠ 73 by decide), F_sF_nq kq_0, tr_sF, zz_sF]; rfl
theorem GS_F73 {σ : rS} {k : Nat} {x : Int} : GS (sF σ 0 73 x) k = GS σ k := by funext g; unfold GS; rw [GS0_F73, GQ_F73]
theorem GQ_F74 {σ : rS} {k : Nat} {x : Int} : GQ (sF σ 0 74 x) k = GQ σ k := by funext g; unfold GQ; rw [F_sF_ne (show (7 : Nat) ≠ 74 by decide), F_sF_nq kq_0, tr_sF, zz_sF]; rfl
theorem GS_F74 {σ : rS} {k : Nat} {x : Int} : GS (sF σ 0 74 x) k = GS σ k := by funext g; unfold GS; rw [GS0_F74, GQ_F74]
theorem GQ_a75 {σ : rS} {k : Nat} {i x : Int} : GQ (sA σ 1075 i x) k = GQ σ k := by funext g; unfold GQ; simp only [rF_sA, tr_a75, zz_out (show 1075 < 2000 ∨ _ from Or.inl (by decide)), ck3_out (show 1075 < 2000 ∨ _ from Or.inl (by decide))]
theorem GS_a75 {σ : rS} {k : Nat} {i x : Int} : GS (sA σ 1075 i x) k = GS σ k := by funext g; unfold GS; rw [GS0_a75, GQ_a75]
theorem GQ_a76 {σ : rS} {k : Nat} {i x : Int} : GQ (sA σ 1076 i x) k = GQ σ k := by funext g; unfold GQ; simp only [rF_sA, tr_a76, zz_out (show 1076 < 2000 ∨ _ from Or.inl (by decide)), ck3_out (show 1076 < 2000 ∨ _ from Or.inl (by decide))]
theorem GS_a76 {σ : rS} {k : Nat} {i x : Int} : GS (sA σ 1076 i x) k = GS σ k := by funext g; unfold GS; rw [GS0_a76, GQ_a76]
theorem GQ_a77 {σ : rS} {k : Nat} {i x : Int} : GQ (sA σ 1077 i x) k = GQ σ k := by funext g; unfold GQ; simp only [rF_sA, tr_a77, zz_out (show 1077 < 2000 ∨ _ from Or.inl (by decide)), ck3_out (show 1077 < 2000 ∨ _ from Or.inl (by decide))]
theorem GS_a77 {σ : rS} {k : Nat} {i x : Int} : GS (sA σ 1077 i x) k = GS σ k := by funext g; unfold GS; rw [GS0_a77, GQ_a77]
theorem GQ_a78 {σ : rS} {k : Nat} {i x : Int} : GQ (sA σ 1078 i x) k = GQ σ k := by funext g; unfold GQ; simp only [rF_sA, tr_a78, zz_out (show 1078 < 2000 ∨ _ from Or.inl (by decide)), ck3_out (show 1078 < 2000 ∨ _ from Or.inl (by decide))]
theorem GS_a78 {σ : rS} {k : Nat} {i x : Int} : GS (sA σ 1078 i x) k = GS σ k := by funext g; unfold GS; rw [GS0_a78, GQ_a78]
theorem GQ_a79 {σ : rS} {k : Nat} {i x : Int} : GQ (sA σ 1079 i x) k = GQ σ k := by funext g; unfold GQ; simp only [rF_sA, tr_a79, zz_out (show 1079 < 2000 ∨ _ from Or.inl (by decide)), ck3_out (show 1079 < 2000 ∨ _ from Or.inl (by decide))]
theorem GS_a79 {σ : rS} {k : Nat} {i x : Int} : GS (sA σ 1079 i x) k = GS σ k := by funext g; unfold GS; rw [GS0_a79, GQ_a79]
theorem GQ_F80 {σ : rS} {k : Nat} {x : Int} : GQ (sF σ 0 80 x) k = GQ σ k := by funext g; unfold GQ; rw [F_sF_ne (show (7 : Nat) ≠ 80 by decide), F_sF_nq kq_0, tr_sF, zz_sF]; rfl
theorem GS_F80 {σ : rS} {k : Nat} {x : Int} : GS (sF σ 0 80 x) k = GS σ k := by funext g; unfold GS; rw [GS0_F80, GQ_F80]
theorem GQ_F81 {σ : rS} {k : Nat} {x : Int} : GQ (sF σ 0 81 x) k = GQ σ k := by funext g; unfold GQ; rw [F_sF_ne (show (7 : Nat) ≠ 81 by decide), F_sF_nq kq_0, tr_sF, zz_sF]; rfl
theorem GS_F81 {σ : rS} {k : Nat} {x : Int} : GS (sF σ 0 81 x) k = GS σ k := by funext g; unfold GS; rw [GS0_F81, GQ_F81]
theorem GQ_F82 {σ : rS} {k : Nat} {x : Int} : GQ (sF σ 0 82 x) k = GQ σ k := by funext g; unfold GQ; rw [F_sF_ne (show (7 : Nat) ≠ 82 by decide), F_sF_nq kq_0, tr_sF, zz_sF]; rfl
theorem GS_F82 {σ : rS} {k : Nat} {x : Int} : GS (sF σ 0 82 x) k = GS σ k := by funext g; unfold GS; rw [GS0_F82, GQ_F82]
theorem GQ_F83 {σ : rS} {k : Nat} {x : Int} : GQ (sF σ 0 83 x) k = GQ σ k := by funext g; unfold GQ; rw [F_sF_ne (show (7 : Nat) ≠ 83 by decide), F_sF_nq kq_0, tr_sF, zz_sF]; rfl
theorem GS_F83 {σ : rS} {k : Nat} {x : Int} : GS (sF σ 0 83 x) k = GS σ k := by funext g; unfold GS; rw [GS0_F83, GQ_F83]
theorem GQ_a84 {σ : rS} {k : Nat} {i x : Int} : GQ (sA σ 1084 i x) k = GQ σ k := by funext g; unfold GQ; simp only [rF_sA, tr_a84, zz_out (show 1084 < 2000 ∨ _ from Or.inl (by decide)), ck3_out (show 1084 < 2000 ∨ _ from Or.inl (by decide))]
theorem GS_a84 {σ : rS} {k : Nat} {i x : Int} : GS (sA σ 1084 i x) k = GS σ k := by funext g; unfold GS; rw [GS0_a84, GQ_a84]
theorem GQ_a85 {σ : rS} {k : Nat} {i x : Int} : GQ (sA σ 1085 i x) k = GQ σ k := by funext g; unfold GQ; simp only [rF_sA, tr_a85, zz_out (show 1085 < 2000 ∨ _ from Or.inl (by decide)), ck3_out (show 1085 < 2000 ∨ _ from Or.inl (by decide))]
theorem GS_a85 {σ : rS} {k : Nat} {i x : Int} : GS (sA σ 1085 i x) k = GS σ k := by funext g; unfold GS; rw [GS0_a85, GQ_a85]
theorem GQ_a86 {σ : rS} {k : Nat} {i x : Int} : GQ (sA σ 1086 i x) k = GQ σ k := by funext g; unfold GQ; simp only [rF_sA, tr_a86, zz_out (show 1086 < 2000 ∨ _ from Or.inl (by decide)), ck3_out (show 1086 < 2000 ∨ _ from Or.inl (by decide))]
theorem GS_a86 {σ : rS} {k : Nat} {i x : Int} : GS (sA σ 1086 i x) k = GS σ k := by funext g; unfold GS; rw [GS0_a86, GQ_a86]
theorem GQ_a87 {σ : rS} {k : Nat} {i x : Int} : GQ (sA σ 1087 i x) k = GQ σ k := by funext g; unfold GQ; simp only [rF_sA, tr_a87, zz_out (show 1087 < 2000 ∨ _ from Or.inl (by decide)), ck3_out (show 1087 < 2000 ∨ _ from Or.inl (by decide))]
theorem GS_a87 {σ : rS} {k : Nat} {i x : Int} : GS (sA σ 1087 i x) k = GS σ k := by funext g; unfold GS; rw [GS0_a87, GQ_a87]
theorem GQ_F88 {σ : rS} {k : Nat} {x : Int} : GQ (sF σ 0 88 x) k = GQ σ k := by funext g; unfold GQ; rw [F_sF_ne (show (7 : Nat) ≠ 88 by decide), F_sF_nq kq_0, tr_sF, zz_sF]; rfl
theorem GS_F88 {σ : rS} {k : Nat} {x : Int} : GS (sF σ 0 88 x) k = GS σ k := by funext g; unfold GS; rw [GS0_F88, GQ_F88]
theorem GQ_a89 {σ : rS} {k : Nat} {i x : Int} : GQ (sA σ 1089 i x) k = GQ σ k := by funext g; unfold GQ; simp only [rF_sA, tr_a89, zz_out (show 1089 < 2000 ∨ _ from Or.inl (by decide)), ck3_out (show 1089 < 2000 ∨ _ from Or.inl (by decide))]
theorem GS_a89 {σ : rS} {k : Nat} {i x : Int} : GS (sA σ 1089 i x) k = GS σ k := by funext g; unfold GS; rw [GS0_a89, GQ_a89]
theorem GQ_a90 {σ : rS} {k : Nat} {i x : Int} : GQ (sA σ 1090 i x) k = GQ σ k := by funext g; unfold GQ; simp only [rF_sA, tr_a90, zz_out (show 1090 < 2000 ∨ _ from Or.inl (by decide)), ck3_out (show 1090 < 2000 ∨ _ from Or.inl (by decide))]
theorem GS_a90 {σ : rS} {k : Nat} {i x : Int} : GS (sA σ 1090 i x) k = GS σ k := by funext g; unfold GS; rw [GS0_a90, GQ_a90]
theorem GQ_a91 {σ : rS} {k : Nat} {i x : Int} : GQ (sA σ 1091 i x) k = GQ σ k := by funext g; unfold GQ; simp only [rF_sA, tr_a91, zz_out (show 1091 < 2000 ∨ _ from Or.inl (by decide)), ck3_out (show 1091 < 2000 ∨ _ from Or.inl (by decide))]
theorem GS_a91 {σ : rS} {k : Nat} {i x : Int} : GS (sA σ 1091 i x) k = GS σ k := by funext g; unfold GS; rw [GS0_a91, GQ_a91]
theorem GQ_F92 {σ : rS} {k : Nat} {x : Int} : GQ (sF σ 0 92 x) k = GQ σ k := by funext g; unfold GQ; rw [F_sF_ne (show (7 : Nat) ≠ 92 by decide), F_sF_nq kq_0, tr_sF, zz_sF]; rfl
theorem GS_F92 {σ : rS} {k : Nat} {x : Int} : GS (sF σ 0 92 x) k = GS σ k := by funext g; unfold GS; rw [GS0_F92, GQ_F92]
theorem GQ_a93 {σ : rS} {k : Nat} {i x : Int} : GQ (sA σ 1093 i x) k = GQ σ k := by funext g; unfold GQ; simp only [rF_sA, tr_a93, zz_out (show 1093 < 2000 ∨ _ from Or.inl (by decide)), ck3_out (show 1093 < 2000 ∨ _ from Or.inl (by decide))]
theorem GS_a93 {σ : rS} {k : Nat} {i x : Int} : GS (sA σ 1093 i x) k = GS σ k := by funext g; unfold GS; rw [GS0_a93, GQ_a93]
theorem GQ_F94 {σ : rS} {k : Nat} {x : Int} : GQ (sF σ 0 94 x) k = GQ σ k := by funext g; unfold GQ; rw [F_sF_ne (show (7 : Nat) ≠ 94 by decide), F_sF_nq kq_0, tr_sF, zz_sF]; rfl
theorem GS_F94 {σ : rS} {k : Nat} {x : Int} : GS (sF σ 0 94 x) k = GS σ k := by funext g; unfold GS; rw [GS0_F94, GQ_F94]
theorem GQ_F96 {σ : rS} {k : Nat} {x : Int} : GQ (sF σ 0 96 x) k = GQ σ k := by funext g; unfold GQ; rw [F_sF_ne (show (7 : Nat) ≠ 96 by decide), F_sF_nq kq_0, tr_sF, zz_sF]; rfl
theorem GS_F96 {σ : rS} {k : Nat} {x : Int} : GS (sF σ 0 96 x) k = GS σ k := by funext g; unfold GS; rw [GS0_F96, GQ_F96]
theorem GQ_F97 {σ : rS} {k : Nat} {x : Int} : GQ (sF σ 0 97 x) k = GQ σ k := by funext g; unfold GQ; rw [F_sF_ne (show (7 : Nat) ≠ 97 by decide), F_sF_nq kq_0, tr_sF, zz_sF]; rfl
theorem GS_F97 {σ : rS} {k : Nat} {x : Int} : GS (sF σ 0 97 x) k = GS σ k := by funext g; unfold GS; rw [GS0_F97, GQ_F97]
theorem GQ_F98 {σ : rS} {k : Nat} {x : Int} : GQ (sF σ 0 98 x) k = GQ σ k := by funext g; unfold GQ; rw [F_sF_ne (show (7 : Nat) ≠ 98 by decide), F_sF_nq kq_0, tr_sF, zz_sF]; rfl
theorem GS_F98 {σ : rS} {k : Nat} {x : Int} : GS (sF σ 0 98 x) k = GS σ k := by funext g; unfold GS; rw [GS0_F98, GQ_F98]
theorem GQ_F99 {σ : rS} {k : Nat} {x : Int} : GQ (sF σ 0 99 x) k = GQ σ k := by funext g; unfold GQ; rw [F_sF_ne (show (7 : Nat) ≠ 99 by decide), F_sF_nq kq_0, tr_sF, zz_sF]; rfl
theorem GS_F99 {σ : rS} {k : Nat} {x : Int} : GS (sF σ 0 99 x) k = GS σ k := by funext g; unfold GS; rw [GS0_F99, GQ_F99]
theorem GQ_F100 {σ : rS} {k : Nat} {x : Int} : GQ (sF σ 0 100 x) k = GQ σ k := by funext g; unfold GQ; rw [F_sF_ne (show (7 : Nat) ≠ 100 by decide), F_sF_nq kq_0, tr_sF, zz_sF]; rfl
theorem GS_F100 {σ : rS} {k : Nat} {x : Int} : GS (sF σ 0 100 x) k = GS σ k := by funext g; unfold GS; rw [GS0_F100, GQ_F100]
theorem GQ_F101 {σ : rS} {k : Nat} {x : Int} : GQ (sF σ 0 101 x) k = GQ σ k := by funext g; unfold GQ; rw [F_sF_ne (show (7 : Nat) ≠ 101 by decide), F_sF_nq kq_0, tr_sF, zz_sF]; rfl
theorem GS_F101 {σ : rS} {k : Nat} {x : Int} : GS (sF σ 0 101 x) k = GS σ k := by funext g; unfold GS; rw [GS0_F101, GQ_F101]
theorem GQ_a102 {σ : rS} {k : Nat} {i x : Int} : GQ (sA σ 1102 i x) k = GQ σ k := by funext g; unfold GQ; simp only [rF_sA, tr_a102, zz_out (show 1102 < 2000 ∨ _ from Or.inl (by decide)), ck3_out (show 1102 < 2000 ∨ _ from Or.inl (by decide))]
theorem GS_a102 {σ : rS} {k : Nat} {i x : Int} : GS (sA σ 1102 i x) k = GS σ k := by funext g; unfold GS; rw [GS0_a102, GQ_a102]
theorem GQ_F103 {σ : rS} {k : Nat} {x : Int} : GQ (sF σ 0 103 x) k = GQ σ k := by funext g; unfold GQ; rw [F_sF_ne (show (7 : Nat) ≠ 103 by decide), F_sF_nq kq_0, tr_sF, zz_sF]; rfl
theorem GS_F103 {σ : rS} {k : Nat} {x : Int} : GS (sF σ 0 103 x) k = GS σ k := by funext g; unfold GS; rw [GS0_F103, GQ_F103]
theorem GQ_F104 {σ : rS} {k : Nat} {x : Int} : GQ (sF σ 0 104 x) k = GQ σ k := by funext g; unfold GQ; rw [F_sF_ne (show (7 : Nat) ≠ 104 by decide), F_sF_nq kq_0, tr_sF, zz_sF]; rfl
theorem GS_F104 {σ : rS} {k : Nat} {x : Int} : GS (sF σ 0 104 x) k = GS σ k := by funext g; unfold GS; rw [GS0_F104, GQ_F104]
theorem GQ_a105 {σ : rS} {k : Nat} {i x : Int} : GQ (sA σ 1105 i x) k = GQ σ k := by funext g; unfold GQ; simp only [rF_sA, tr_a105, zz_out (show 1105 < 2000 ∨ _ from Or.inl (by decide)), ck3_out (show 1105 < 2000 ∨ _ from Or.inl (by decide))]
theorem GS_a105 {σ : rS} {k : Nat} {i x : Int} : GS (sA σ 1105 i x) k = GS σ k := by funext g; unfold GS; rw [GS0_a105, GQ_a105]
theorem GQ_a106 {σ : rS} {k : Nat} {i x : Int} : GQ (sA σ 1106 i x) k = GQ σ k := by funext g; unfold GQ; simp only [rF_sA, tr_a106, zz_out (show 1106 < 2000 ∨ _ from Or.inl (by decide)), ck3_out (show 1106 < 2000 ∨ _ from Or.inl (by decide))]
theorem GS_a106 {σ : rS} {k : Nat} {i x : Int} : GS (sA σ 1106 i x) k = GS σ k := by funext g; unfold GS; rw [GS0_a106, GQ_a106]
theorem GQ_a107 {σ : rS} {k : Nat} {i x : Int} : GQ (sA σ 1107 i x) k = GQ σ k := by funext g; unfold GQ; simp only [rF_sA, tr_a107, zz_out (show 1107 < 2000 ∨ _ from Or.inl (by decide)), ck3_out (show 1107 < 2000 ∨ _ from Or.inl (by decide))]
theorem GS_a107 {σ : rS} {k : Nat} {i x : Int} : GS (sA σ 1107 i x) k = GS σ k := by funext g; unfold GS; rw [GS0_a107, GQ_a107]
theorem GQ_a108 {σ : rS} {k : Nat} {i x : Int} : GQ (sA σ 1108 i x) k = GQ σ k := by funext g; unfold GQ; simp only [rF_sA, tr_a108, zz_out (show 1108 < 2000 ∨ _ from Or.inl (by decide)), ck3_out (show 1108 < 2000 ∨ _ from Or.inl (by decide))]
theorem GS_a108 {σ : rS} {k : Nat} {i x : Int} : GS (sA σ 1108 i x) k = GS σ k := by funext g; unfold GS; rw [GS0_a108, GQ_a108]
theorem GQ_a109 {σ : rS} {k : Nat} {i x : Int} : GQ (sA σ 1109 i x) k = GQ σ k := by funext g; unfold GQ; simp only [rF_sA, tr_a109, zz_out (show 1109 < 2000 ∨ _ from Or.inl (by decide)), ck3_out (show 1109 < 2000 ∨ _ from Or.inl (by decide))]
theorem GS_a109 {σ : rS} {k : Nat} {i x : Int} : GS (sA σ 1109 i x) k = GS σ k := by funext g; unfold GS; rw [GS0_a109, GQ_a109]
theorem GQ_a110 {σ : rS} {k : Nat} {i x : Int} : GQ (sA σ 1110 i x) k = GQ σ k := by funext g; unfold GQ; simp only [rF_sA, tr_a110, zz_out (show 1110 < 2000 ∨ _ from Or.inl (by decide)), ck3_out (show 1110 < 2000 ∨ _ from Or.inl (by decide))]
theorem GS_a110 {σ : rS} {k : Nat} {i x : Int} : GS (sA σ 1110 i x) k = GS σ k := by funext g; unfold GS; rw [GS0_a110, GQ_a110]
theorem GQ_a111 {σ : rS} {k : Nat} {i x : Int} : GQ (sA σ 1111 i x) k = GQ σ k := by funext g; unfold GQ; simp only [rF_sA, tr_a111, zz_out (show 1111 < 2000 ∨ _ from Or.inl (by decide)), ck3_out (show 1111 < 2000 ∨ _ from Or.inl (by decide))]
theorem GS_a111 {σ : rS} {k : Nat} {i x : Int} : GS (sA σ 1111 i x) k = GS σ k := by funext g; unfold GS; rw [GS0_a111, GQ_a111]
theorem GQ_F112 {σ : rS} {k : Nat} {x : Int} : GQ (sF σ 0 112 x) k = GQ σ k := by funext g; unfold GQ; rw [F_sF_ne (show (7 : Nat) ≠ 112 by decide), F_sF_nq kq_0, tr_sF, zz_sF]; rfl
theorem GS_F112 {σ : rS} {k : Nat} {x : Int} : GS (sF σ 0 112 x) k = GS σ k := by funext g; unfold GS; rw [GS0_F112, GQ_F112]
theorem GQ_F113 {σ : rS} {k : Nat} {x : Int} : GQ (sF σ 0 113 x) k = GQ σ k := by funext g; unfold GQ; rw [F_sF_ne (show (7 : Nat) ≠ 113 by decide), F_sF_nq kq_0, tr_sF, zz_sF]; rfl
theorem GS_F113 {σ : rS} {k : Nat} {x : Int} : GS (sF σ 0 113 x) k = GS σ k := by funext g; unfold GS; rw [GS0_F113, GQ_F113]
theorem GQ_a114 {σ : rS} {k : Nat} {i x : Int} : GQ (sA σ 1114 i x) k = GQ σ k := by funext g; unfold GQ; simp only [rF_sA, tr_a114, zz_out (show 1114 < 2000 ∨ _ from Or.inl (by decide)), ck3_out (show 1114 < 2000 ∨ _ from Or.inl (by decide))]
theorem GS_a114 {σ : rS} {k : Nat} {i x : Int} : GS (sA σ 1114 i x) k = GS σ k := by funext g; unfold GS; rw [GS0_a114, GQ_a114]
theorem GQ_a115 {σ : rS} {k : Nat} {i x : Int} : GQ (sA σ 1115 i x) k = GQ σ k := by funext g; unfold GQ; simp only [rF_sA, tr_a115, zz_out (show 1115 < 2000 ∨ _ from Or.inl (by decide)), ck3_out (show 1115 < 2000 ∨ _ from Or.inl (by decide))]
theorem GS_a115 {σ : rS} {k : Nat} {i x : Int} : GS (sA σ 1115 i x) k = GS σ k := by funext g; unfold GS; rw [GS0_a115, GQ_a115]
theorem GQ_a116 {σ : rS} {k : Nat} {i x : Int} : GQ (sA σ 1116 i x) k = GQ σ k := by funext g; unfold GQ; simp only [rF_sA, tr_a116, zz_out (show 1116 < 2000 ∨ _ from Or.inl (by decide)), ck3_out (show 1116 < 2000 ∨ _ from Or.inl (by decide))]
theorem GS_a116 {σ : rS} {k : Nat} {i x : Int} : GS (sA σ 1116 i x) k = GS σ k := by funext g; unfold GS; rw [GS0_a116, GQ_a116]
theorem GQ_a117 {σ : rS} {k : Nat} {i x : Int} : GQ (sA σ 1117 i x) k = GQ σ k := by funext g; unfold GQ; simp only [rF_sA, tr_a117, zz_out (show 1117 < 2000 ∨ _ from Or.inl (by decide)), ck3_out (show 1117 < 2000 ∨ _ from Or.inl (by decide))]
theorem GS_a117 {σ : rS} {k : Nat} {i x : Int} : GS (sA σ 1117 i x) k = GS σ k := by funext g; unfold GS; rw [GS0_a117, GQ_a117]
theorem GQ_F118 {σ : rS} {k : Nat} {x : Int} : GQ (sF σ 0 118 x) k = GQ σ k := by funext g; unfold GQ; rw [F_sF_ne (show (7 : Nat) ≠ 118 by decide), F_sF_nq kq_0, tr_sF, zz_sF]; rfl
theorem GS_F118 {σ : rS} {k : Nat} {x : Int} : GS (sF σ 0 118 x) k = GS σ k := by funext g; unfold GS; rw [GS0_F118, GQ_F118]
theorem GQ_F119 {σ : rS} {k : Nat} {x : Int} : GQ (sF σ 0 119 x) k = GQ σ k := by funext g; unfold GQ; rw [F_sF_ne (show (7 : Nat) ≠ 119 by decide), F_sF_nq kq_0, tr_sF, zz_sF]; rfl
theorem GS_F119 {σ : rS} {k : Nat} {x : Int} : GS (sF σ 0 119 x) k = GS σ k := by funext g; unfold GS; rw [GS0_F119, GQ_F119]
theorem GQ_a120 {σ : rS} {k : Nat} {i x : Int} : GQ (sA σ 1120 i x) k = GQ σ k := by funext g; unfold GQ; simp only [rF_sA, tr_a120, zz_out (show 1120 < 2000 ∨ _ from Or.inl (by decide)), ck3_out (show 1120 < 2000 ∨ _ from Or.inl (by decide))]
theorem GS_a120 {σ : rS} {k : Nat} {i x : Int} : GS (sA σ 1120 i x) k = GS σ k := by funext g; unfold GS; rw [GS0_a120, GQ_a120]
theorem GQ_a121 {σ : rS} {k : Nat} {i x : Int} : GQ (sA σ 1121 i x) k = GQ σ k := by funext g; unfold GQ; simp only [rF_sA, tr_a121, zz_out (show 1121 < 2000 ∨ _ from Or.inl (by decide)), ck3_out (show 1121 < 2000 ∨ _ from Or.inl (by decide))]
theorem GS_a121 {σ : rS} {k : Nat} {i x : Int} : GS (sA σ 1121 i x) k = GS σ k := by funext g; unfold GS; rw [GS0_a121, GQ_a121]
theorem GQ_F122 {σ : rS} {k : Nat} {x : Int} : GQ (sF σ 0 122 x) k = GQ σ k := by funext g; unfold GQ; rw [F_sF_ne (show (7 : Nat) ≠ 122 by decide), F_sF_nq kq_0, tr_sF, zz_sF]; rfl
theorem GS_F122 {σ : rS} {k : Nat} {x : Int} : GS (sF σ 0 122 x) k = GS σ k := by funext g; unfold GS; rw [GS0_F122, GQ_F122]
theorem GQ_F123 {σ : rS} {k : Nat} {x : Int} : GQ (sF σ 0 123 x) k = GQ σ k := by funext g; unfold GQ; rw [F_sF_ne (show (7 : Nat) ≠ 123 by decide), F_sF_nq kq_0, tr_sF, zz_sF]; rfl
theorem GS_F123 {σ : rS} {k : Nat} {x : Int} : GS (sF σ 0 123 x) k = GS σ k := by funext g; unfold GS; rw [GS0_F123, GQ_F123]
theorem GQ_a124 {σ : rS} {k : Nat} {i x : Int} : GQ (sA σ 1124 i x) k = GQ σ k := by funext g; unfold GQ; simp only [rF_sA, tr_a124, zz_out (show 1124 < 2000 ∨ _ from Or.inl (by decide)), ck3_out (show 1124 < 2000 ∨ _ from Or.inl (by decide))]
theorem GS_a124 {σ : rS} {k : Nat} {i x : Int} : GS (sA σ 1124 i x) k = GS σ k := by funext g; unfold GS; rw [GS0_a124, GQ_a124]
theorem GQ_a125 {σ : rS} {k : Nat} {i x : Int} : GQ (sA σ 1125 i x) k = GQ σ k := by funext g; unfold GQ; simp only [rF_sA, tr_a125, zz_out (show 1125 < 2000 ∨ _ from Or.inl (by decide)), ck3_out (show 1125 < 2000 ∨ _ from Or.inl (by decide))]
theorem GS_a125 {σ : rS} {k : Nat} {i x : Int} : GS (sA σ 1125 i x) k = GS σ k := by funext g; unfold GS; rw [GS0_a125, GQ_a125]
theorem GQ_a126 {σ : rS} {k : Nat} {i x : Int} : GQ (sA σ 1126 i x) k = GQ σ k := by funext g; unfold GQ; simp only [rF_sA, tr_a126, zz_out (show 1126 < 2000 ∨ _ from Or.inl (by decide)), ck3_out (show 1126 < 2000 ∨ _ from Or.inl (by decide))]
theorem GS_a126 {σ : rS} {k : Nat} {i x : Int} : GS (sA σ 1126 i x) k = GS σ k := by funext g; unfold GS; rw [GS0_a126, GQ_a126]
theorem GQ_a127 {σ : rS} {k : Nat} {i x : Int} : GQ (sA σ 1127 i x) k = GQ σ k := by funext g; unfold GQ; simp only [rF_sA, tr_a127, zz_out (show 1127 < 2000 ∨ _ from Or.inl (by decide)), ck3_out (show 1127 < 2000 ∨ _ from Or.inl (by decide))]
theorem GS_a127 {σ : rS} {k : Nat} {i x : Int} : GS (sA σ 1127 i x) k = GS σ k := by funext g; unfold GS; rw [GS0_a127, GQ_a127]
theorem GQ_a128 {σ : rS} {k : Nat} {i x : Int} : GQ (sA σ 1128 i x) k = GQ σ k := by funext g; unfold GQ; simp only [rF_sA, tr_a128, zz_out (show 1128 < 2000 ∨ _ from Or.inl (by decide)), ck3_out (show 1128 < 2000 ∨ _ from Or.inl (by decide))]
theorem GS_a128 {σ : rS} {k : Nat} {i x : Int} : GS (sA σ 1128 i x) k = GS σ k := by funext g; unfold GS; rw [GS0_a128, GQ_a128]
theorem GQ_a129 {σ : rS} {k : Nat} {i x : Int} : GQ (sA σ 1129 i x) k = GQ σ k := by funext g; unfold GQ; simp only [rF_sA, tr_a129, zz_out (show 1129 < 2000 ∨ _ from Or.inl (by decide)), ck3_out (show 1129 < 2000 ∨ _ from Or.inl (by decide))]
theorem GS_a129 {σ : rS} {k : Nat} {i x : Int} : GS (sA σ 1129 i x) k = GS σ k := by funext g; unfold GS; rw [GS0_a129, GQ_a129]
theorem GQ_F135 {σ : rS} {k : Nat} {x : Int} : GQ (sF σ 0 135 x) k = GQ σ k := by funext g; unfold GQ; rw [F_sF_ne (show (7 : Nat) ≠ 135 by decide), F_sF_nq kq_0, tr_sF, zz_sF]; rfl
theorem GS_F135 {σ : rS} {k : Nat} {x : Int} : GS (sF σ 0 135 x) k = GS σ k := by funext g; unfold GS; rw [GS0_F135, GQ_F135]
theorem GQ_a136 {σ : rS} {k : Nat} {i x : Int} : GQ (sA σ 1136 i x) k = GQ σ k := by funext g; unfold GQ; simp only [rF_sA, tr_a136, zz_out (show 1136 < 2000 ∨ _ from Or.inl (by decide)), ck3_out (show 1136 < 2000 ∨ _ from Or.inl (by decide))]
theorem GS_a136 {σ : rS} {k : Nat} {i x : Int} : GS (sA σ 1136 i x) k = GS σ k := by funext g; unfold GS; rw [GS0_a136, GQ_a136]
theorem GQ_F137 {σ : rS} {k : Nat} {x : Int} : GQ (sF σ 0 137 x) k = GQ σ k := by funext g; unfold GQ; rw [F_sF_ne (show (7 : Nat) ≠ 137 by decide), F_sF_nq kq_0, tr_sF, zz_sF]; rfl
theorem GS_F137 {σ : rS} {k : Nat} {x : Int} : GS (sF σ 0 137 x) k = GS σ k := by funext g; unfold GS; rw [GS0_F137, GQ_F137]
theorem GQ_a138 {σ : rS} {k : Nat} {i x : Int} : GQ (sA σ 1138 i x) k = GQ σ k := by funext g; unfold GQ; simp only [rF_sA, tr_a138, zz_out (show 1138 < 2000 ∨ _ from Or.inl (by decide)), ck3_out (show 1138 < 2000 ∨ _ from Or.inl (by decide))]
theorem GS_a138 {σ : rS} {k : Nat} {i x : Int} : GS (sA σ 1138 i x) k = GS σ k := by funext g; unfold GS; rw [GS0_a138, GQ_a138]
theorem EN_41 {P : Prop} {s t : rS} {k : Nat} {g : Nat → Int → Int} {r x2 x3 : Int} (b d : Int) (hk : rgk k) (G : Im P (GS s k g)) (R : Im P (RG s t k 0)) (hr : r = rF s k 7) (hN : rF t k 7 = rF s k 7 + 1) (h0 : tr t k 0 r = 41) (h1 : tr t k 1 r = x2) (h2 : tr t k 2 r = x3) (h3 : tr t k 3 r = 0) (h5 : tr t k 5 r = 0) (sd : Im P (0 < rF s k 7 ∧ (0 ≤ b ∧ b ≤ 9000) ∧ (-1 ≤ d ∧ d ≤ 21) ∧ rF s k 12 ≤ rF t k 12 ∧ (x2 = 0 ∧ x3 = 0) ∧ (True))) (hC : rF t k 38 = rF s k 38 := by first | assumption | omega | (simp only [rF_sT, rF_sA]; omega)): ∃ g', Im P (GS t k g' ∧ GK g g' (rF s k 7) (rF t k 7) 0 ∧ OP t k g' r 41 d b (-1) b 0 ∧ g' 6 r = 0) := by
  obtain ⟨g', X⟩ := ENo_41 b d hk (fun hp => (G hp).1) R hr hN h0 h1 h2 h3 h5 sd
  exact ⟨g', fun hp => ⟨⟨(X hp).1, GQ.en hk (G hp).2 (R hp) hN hC (fun j m hm _ _ _ => (X hp).2.1.2.1 j m hm (Or.inr (Or.inr rfl))) (by have := (X hp).2.2.1.2.2.2.2.1; rw [hr] at this; exact this)⟩, (X hp).2⟩⟩
theorem EV_41 {P : Prop} {s t : rS} {k S : Nat} {g : Nat → Int → Int} {r v x3 n0 l h d' : Int} (b d : Int) (hk : rgk k) (G : Im P (GS s k g)) (V : Im P (NR s k g S v n0 l h d')) (hso : ∀ q, so S q → so 17 q) (R : Im P (RG s t k 0)) (hr : r = rF s k 7) (hN : rF t k 7 = rF s k 7 + 1) (h0 : tr t k 0 r = 41) (h1 : tr t k 1 r = v) (h2 : tr t k 2 r = x3) (h3 : tr t k 3 r = 0) (h5 : tr t k 5 r = 0) (sd : Im P (0 < rF s k 7 ∧ (0 ≤ b ∧ b ≤ 9000) ∧ (-1 ≤ d ∧ d ≤ 21) ∧ rF s k 12 ≤ rF t k 12 ∧ (x3 = 0) ∧ (b ≤ l ∧ 0 ≤ l) ∧ d + 0 ≤ d')) (hC : rF t k 38 = rF s k 38 := by first | assumption | omega | (simp only [rF_sT, rF_sA]; omega)): ∃ g', Im P (GS t k g' ∧ KV g g' (rF s k 7) (rF t k 7) v ∧ OP t k g' r 41 d b h h 0 ∧ LI t k g' r 1 41 v ∧ (g 2 v ≤ 9000 ∧ g 3 v = 0) ∧ g' 6 r = 0) := by
  obtain ⟨g', X⟩ := EVo_41 b d hk (fun hp => (G hp).1) V hso R hr hN h0 h1 h2 h3 h5 sd
  exact ⟨g', fun hp => ⟨⟨(X hp).1, GQ.en hk (G hp).2 (R hp) hN hC (fun j m hm j3 j5 j8 => by
    by_cases e : m = v
    · subst e; exact (X hp).2.1 j j3 j5 j8
    · exact (X hp).2.2.1.2.2.1 j m hm e) (by have := (X hp).2.2.2.1.2.2.2.2.1; rw [hr] at this; exact this)⟩, (X hp).2.2⟩⟩
theorem EC_41 {P : Prop} {s : rS} {k : Nat} {g : Nat → Int → Int} {it d lo x y e : Int} (b : Int) (G : Im P (GS s k g)) (O : Im P (OP s k g it 41 d lo x y e)) (sd : Im P (x ≤ b ∧ y ≤ b ∧ b ≤ 9000)) : ∃ g', Im P (GS s k g' ∧ NR s k g' 1 it it lo b d ∧ KC g g' it) := by
  obtain ⟨g', X⟩ := ECo_41 b (fun hp => (G hp).1) O sd
  exact ⟨g', fun hp => ⟨⟨(X hp).1, GQ.kc (G hp).2 (X hp).2.2 (fun _ h => absurd (h.symm.trans (O hp).2.2.1) (by decide))⟩, (X hp).2⟩⟩
theorem EN_30 {P : Prop} {s t : rS} {k : Nat} {g : Nat → Int → Int} {r x2 x3 : Int} (b d : Int) (hk : rgk k) (G : Im P (GS s k g)) (R : Im P (RG s t k 0)) (hr : r = rF s k 7) (hN : rF t k 7 = rF s k 7 + 1) (h0 : tr t k 0 r = 30) (h1 : tr t k 1 r = x2) (h2 : tr t k 2 r = x3) (h5 : tr t k 5 r = 0) (sd : Im P (0 < rF s k 7 ∧ (0 ≤ b ∧ b ≤ 9000) ∧ (-1 ≤ d ∧ d ≤ 21) ∧ rF s k 12 ≤ rF t k 12 ∧ (True) ∧ (0 ≤ x2 ∧ 0 ≤ x3 ∧ x3 ≤ 4000 ∧ x2 + x3 ≤ 60000))) (hC : rF t k 38 = rF s k 38 := by first | assumption | omega | (simp only [rF_sT, rF_sA]; omega)): ∃ g', Im P (GS t k g' ∧ GK g g' (rF s k 7) (rF t k 7) 0 ∧ OP t k g' r 30 d b (-1) b 0 ∧ g' 6 r = 0) := by
  obtain ⟨g', X⟩ := ENo_30 b d hk (fun hp => (G hp).1) R hr hN h0 h1 h2 h5 sd
  exact ⟨g', fun hp => ⟨⟨(X hp).1, GQ.en hk (G hp).2 (R hp) hN hC (fun j m hm _ _ _ => (X hp).2.1.2.1 j m hm (Or.inr (Or.inr rfl))) (by have := (X hp).2.2.1.2.2.2.2.1; rw [hr] at this; exact this)⟩, (X hp).2⟩⟩
theorem EC_30 {P : Prop} {s : rS} {k : Nat} {g : Nat → Int → Int} {it d lo x y e : Int} (b : Int) (G : Im P (GS s k g)) (O : Im P (OP s k g it 30 d lo x y e)) (sd : Im P (x ≤ b ∧ y ≤ b ∧ b ≤ 9000)) : ∃ g', Im P (GS s k g' ∧ NR s k g' 2 it it lo b d ∧ KC g g' it) := by
  obtain ⟨g', X⟩ := ECo_30 b (fun hp => (G hp).1) O sd
  exact ⟨g', fun hp => ⟨⟨(X hp).1, GQ.kc (G hp).2 (X hp).2.2 (fun _ h => absurd (h.symm.trans (O hp).2.2.1) (by decide))⟩, (X hp).2⟩⟩
theorem EN_31 {P : Prop} {s t : rS} {k : Nat} {g : Nat → Int → Int} {r x2 x3 : Int} (b d : Int) (hk : rgk k) (G : Im P (GS s k g)) (R : Im P (RG s t k 0)) (hr : r = rF s k 7) (hN : rF t k 7 = rF s k 7 + 1) (h0 : tr t k 0 r = 31) (h1 : tr t k 1 r = x2) (h2 : tr t k 2 r = x3) (h5 : tr t k 5 r = 0) (sd : Im P (0 < rF s k 7 ∧ (0 ≤ b ∧ b ≤ 9000) ∧ (-1 ≤ d ∧ d ≤ 21) ∧ rF s k 12 ≤ rF t k 12 ∧ (True) ∧ (True))) (hC : rF t k 38 = rF s k 38 := by first | assumption | omega | (simp only [rF_sT, rF_sA]; omega)): ∃ g', Im P (GS t k g' ∧ GK g g' (rF s k 7) (rF t k 7) 0 ∧ OP t k g' r 31 d b (-1) b 0 ∧ g' 6 r = 0) := by
  obtain ⟨g', X⟩ := ENo_31 b d hk (fun hp => (G hp).1) R hr hN h0 h1 h2 h5 sd
  exact ⟨g', fun hp => ⟨⟨(X hp).1, GQ.en hk (G hp).2 (R hp) hN hC (fun j m hm _ _ _ => (X hp).2.1.2.1 j m hm (Or.inr (Or.inr rfl))) (by have := (X hp).2.2.1.2.2.2.2.1; rw [hr] at this; exact this)⟩, (X hp).2⟩⟩
theorem EC_31 {P : Prop} {s : rS} {k : Nat} {g : Nat → Int → Int} {it d lo x y e : Int} (b : Int) (G : Im P (GS s k g)) (O : Im P (OP s k g it 31 d lo x y e)) (sd : Im P (x ≤ b ∧ y ≤ b ∧ b ≤ 9000)) : ∃ g', Im P (GS s k g' ∧ NR s k g' 2 it it lo b d ∧ KC g g' it) := by
  obtain ⟨g', X⟩ := ECo_31 b (fun hp => (G hp).1) O sd
  exact ⟨g', fun hp => ⟨⟨(X hp).1, GQ.kc (G hp).2 (X hp).2.2 (fun _ h => absurd (h.symm.trans (O hp).2.2.1) (by decide))⟩, (X hp).2⟩⟩
theorem EN_32 {P : Prop} {s t : rS} {k : Nat} {g : Nat → Int → Int} {r x2 x3 : Int} (b d : Int) (hk : rgk k) (G : Im P (GS s k g)) (R : Im P (RG s t k 0)) (hr : r = rF s k 7) (hN : rF t k 7 = rF s k 7 + 1) (h0 : tr t k 0 r = 32) (h1 : tr t k 1 r = x2) (h2 : tr t k 2 r = x3) (h5 : tr t k 5 r = 0) (sd : Im P (0 < rF s k 7 ∧ (0 ≤ b ∧ b ≤ 9000) ∧ (-1 ≤ d ∧ d ≤ 21) ∧ rF s k 12 ≤ rF t k 12 ∧ (True) ∧ (True))) (hC : rF t k 38 = rF s k 38 := by first | assumption | omega | (simp only [rF_sT, rF_sA]; omega)): ∃ g', Im P (GS t k g' ∧ GK g g' (rF s k 7) (rF t k 7) 0 ∧ OP t k g' r 32 d b (-1) b 0 ∧ g' 6 r = 0) := by
  obtain ⟨g', X⟩ := ENo_32 b d hk (fun hp => (G hp).1) R hr hN h0 h1 h2 h5 sd
  exact ⟨g', fun hp => ⟨⟨(X hp).1, GQ.en hk (G hp).2 (R hp) hN hC (fun j m hm _ _ _ => (X hp).2.1.2.1 j m hm (Or.inr (Or.inr rfl))) (by have := (X hp).2.2.1.2.2.2.2.1; rw [hr] at this; exact this)⟩, (X hp).2⟩⟩
theorem EC_32 {P : Prop} {s : rS} {k : Nat} {g : Nat → Int → Int} {it d lo x y e : Int} (b : Int) (G : Im P (GS s k g)) (O : Im P (OP s k g it 32 d lo x y e)) (sd : Im P (x ≤ b ∧ y ≤ b ∧ b ≤ 9000)) : ∃ g', Im P (GS s k g' ∧ NR s k g' 2 it it lo b d ∧ KC g g' it) := by
  obtain ⟨g', X⟩ := ECo_32 b (fun hp => (G hp).1) O sd
  exact ⟨g', fun hp => ⟨⟨(X hp).1, GQ.kc (G hp).2 (X hp).2.2 (fun _ h => absurd (h.symm.trans (O hp).2.2.1) (by decide))⟩, (X hp).2⟩⟩
theorem EN_33 {P : Prop} {s t : rS} {k : Nat} {g : Nat → Int → Int} {r x2 x3 : Int} (b d : Int) (hk : rgk k) (G : Im P (GS s k g)) (R : Im P (RG s t k 0)) (hr : r = rF s k 7) (hN : rF t k 7 = rF s k 7 + 1) (h0 : tr t k 0 r = 33) (h1 : tr t k 1 r = x2) (h2 : tr t k 2 r = x3) (h3 : tr t k 3 r = 0) (h5 : tr t k 5 r = 0) (sd : Im P (0 < rF s k 7 ∧ (0 ≤ b ∧ b ≤ 9000) ∧ (-1 ≤ d ∧ d ≤ 21) ∧ rF s k 12 ≤ rF t k 12 ∧ (x2 = 0 ∧ x3 = 0) ∧ (True))) (hC : rF t k 38 = rF s k 38 := by first | assumption | omega | (simp only [rF_sT, rF_sA]; omega)): ∃ g', Im P (GS t k g' ∧ GK g g' (rF s k 7) (rF t k 7) 0 ∧ OP t k g' r 33 d b (-1) b 0 ∧ g' 6 r = 0) := by
  obtain ⟨g', X⟩ := ENo_33 b d hk (fun hp => (G hp).1) R hr hN h0 h1 h2 h3 h5 sd
  exact ⟨g', fun hp => ⟨⟨(X hp).1, GQ.en hk (G hp).2 (R hp) hN hC (fun j m hm _ _ _ => (X hp).2.1.2.1 j m hm (Or.inr (Or.inr rfl))) (by have := (X hp).2.2.1.2.2.2.2.1; rw [hr] at this; exact this)⟩, (X hp).2⟩⟩
theorem EC_33 {P : Prop} {s : rS} {k : Nat} {g : Nat → Int → Int} {it d lo x y e : Int} (b : Int) (G : Im P (GS s k g)) (O : Im P (OP s k g it 33 d lo x y e)) (sd : Im P (x ≤ b ∧ y ≤ b ∧ b ≤ 9000 ∧ (tr s k 3 it = g 6 it ∧ tr s k 3 it ≤ 12))) : ∃ g', Im P (GS s k g' ∧ NR s k g' 10 it it lo b d ∧ KC g g' it) := by
  obtain ⟨g', X⟩ := ECo_33 b (fun hp => (G hp).1) O sd
  exact ⟨g', fun hp => ⟨⟨(X hp).1, GQ.kc (G hp).2 (X hp).2.2 (fun _ h => absurd (h.symm.trans (O hp).2.2.1) (by decide))⟩, (X hp).2⟩⟩
theorem EN_34 {P : Prop} {s t : rS} {k : Nat} {g : Nat → Int → Int} {r x2 x3 : Int} (b d : Int) (hk : rgk k) (G : Im P (GS s k g)) (R : Im P (RG s t k 0)) (hr : r = rF s k 7) (hN : rF t k 7 = rF s k 7 + 1) (h0 : tr t k 0 r = 34) (h1 : tr t k 1 r = x2) (h2 : tr t k 2 r = x3) (h5 : tr t k 5 r = 0) (sd : Im P (0 < rF s k 7 ∧ (0 ≤ b ∧ b ≤ 9000) ∧ (-1 ≤ d ∧ d ≤ 21) ∧ rF s k 12 ≤ rF t k 12 ∧ (x2 = 0) ∧ (True))) (hC : rF t k 38 = rF s k 38 := by first | assumption | omega | (simp only [rF_sT, rF_sA]; omega)): ∃ g', Im P (GS t k g' ∧ GK g g' (rF s k 7) (rF t k 7) 0 ∧ OP t k g' r 34 d b (-1) b 0 ∧ g' 6 r = 0) := by
  obtain ⟨g', X⟩ := ENo_34 b d hk (fun hp => (G hp).1) R hr hN h0 h1 h2 h5 sd
  exact ⟨g', fun hp => ⟨⟨(X hp).1, GQ.en hk (G hp).2 (R hp) hN hC (fun j m hm _ _ _ => (X hp).2.1.2.1 j m hm (Or.inr (Or.inr rfl))) (by have := (X hp).2.2.1.2.2.2.2.1; rw [hr] at this; exact this)⟩, (X hp).2⟩⟩
theorem EC_34 {P : Prop} {s : rS} {k : Nat} {g : Nat → Int → Int} {it d lo x y e : Int} (b : Int) (G : Im P (GS s k g)) (O : Im P (OP s k g it 34 d lo x y e)) (sd : Im P (x ≤ b ∧ y ≤ b ∧ b ≤ 9000)) : ∃ g', Im P (GS s k g' ∧ NR s k g' 2 it it lo b d ∧ KC g g' it) := by
  obtain ⟨g', X⟩ := ECo_34 b (fun hp => (G hp).1) O sd
  exact ⟨g', fun hp => ⟨⟨(X hp).1, GQ.kc (G hp).2 (X hp).2.2 (fun _ h => absurd (h.symm.trans (O hp).2.2.1) (by decide))⟩, (X hp).2⟩⟩
theorem EN_35 {P : Prop} {s t : rS} {k : Nat} {g : Nat → Int → Int} {r x2 x3 : Int} (b d : Int) (hk : rgk k) (G : Im P (GS s k g)) (R : Im P (RG s t k 0)) (hr : r = rF s k 7) (hN : rF t k 7 = rF s k 7 + 1) (h0 : tr t k 0 r = 35) (h1 : tr t k 1 r = x2) (h2 : tr t k 2 r = x3) (h5 : tr t k 5 r = 0) (sd : Im P (0 < rF s k 7 ∧ (0 ≤ b ∧ b ≤ 9000) ∧ (-1 ≤ d ∧ d ≤ 21) ∧ rF s k 12 ≤ rF t k 12 ∧ (True) ∧ (True))) (hC : rF t k 38 = rF s k 38 := by first | assumption | omega | (simp only [rF_sT, rF_sA]; omega)): ∃ g', Im P (GS t k g' ∧ GK g g' (rF s k 7) (rF t k 7) 0 ∧ OP t k g' r 35 d b (-1) b 0 ∧ g' 6 r = 0) := by
  obtain ⟨g', X⟩ := ENo_35 b d hk (fun hp => (G hp).1) R hr hN h0 h1 h2 h5 sd
  exact ⟨g', fun hp => ⟨⟨(X hp).1, GQ.en hk (G hp).2 (R hp) hN hC (fun j m hm _ _ _ => (X hp).2.1.2.1 j m hm (Or.inr (Or.inr rfl))) (by have := (X hp).2.2.1.2.2.2.2.1; rw [hr] at this; exact this)⟩, (X hp).2⟩⟩
theorem EC_35 {P : Prop} {s : rS} {k : Nat} {g : Nat → Int → Int} {it d lo x y e : Int} (b : Int) (G : Im P (GS s k g)) (O : Im P (OP s k g it 35 d lo x y e)) (sd : Im P (x ≤ b ∧ y ≤ b ∧ b ≤ 9000)) : ∃ g', Im P (GS s k g' ∧ NR s k g' 2 it it lo b d ∧ KC g g' it) := by
  obtain ⟨g', X⟩ := ECo_35 b (fun hp => (G hp).1) O sd
  exact ⟨g', fun hp => ⟨⟨(X hp).1, GQ.kc (G hp).2 (X hp).2.2 (fun _ h => absurd (h.symm.trans (O hp).2.2.1) (by decide))⟩, (X hp).2⟩⟩
theorem EN_36 {P : Prop} {s t : rS} {k : Nat} {g : Nat → Int → Int} {r x2 x3 : Int} (b d : Int) (hk : rgk k) (G : Im P (GS s k g)) (R : Im P (RG s t k 0)) (hr : r = rF s k 7) (hN : rF t k 7 = rF s k 7 + 1) (h0 : tr t k 0 r = 36) (h1 : tr t k 1 r = x2) (h2 : tr t k 2 r = x3) (h5 : tr t k 5 r = 0) (sd : Im P (0 < rF s k 7 ∧ (0 ≤ b ∧ b ≤ 9000) ∧ (-1 ≤ d ∧ d ≤ 21) ∧ rF s k 12 ≤ rF t k 12 ∧ (x3 = 0) ∧ (True))) (hC : rF t k 38 = rF s k 38 := by first | assumption | omega | (simp only [rF_sT, rF_sA]; omega)): ∃ g', Im P (GS t k g' ∧ GK g g' (rF s k 7) (rF t k 7) 0 ∧ OP t k g' r 36 d b (-1) b 0 ∧ g' 6 r = 0) := by
  obtain ⟨g', X⟩ := ENo_36 b d hk (fun hp => (G hp).1) R hr hN h0 h1 h2 h5 sd
  exact ⟨g', fun hp => ⟨⟨(X hp).1, GQ.en hk (G hp).2 (R hp) hN hC (fun j m hm _ _ _ => (X hp).2.1.2.1 j m hm (Or.inr (Or.inr rfl))) (by have := (X hp).2.2.1.2.2.2.2.1; rw [hr] at this; exact this)⟩, (X hp).2⟩⟩
theorem EC_36 {P : Prop} {s : rS} {k : Nat} {g : Nat → Int → Int} {it d lo x y e : Int} (b : Int) (G : Im P (GS s k g)) (O : Im P (OP s k g it 36 d lo x y e)) (sd : Im P (x ≤ b ∧ y ≤ b ∧ b ≤ 9000)) : ∃ g', Im P (GS s k g' ∧ NR s k g' 2 it it lo b d ∧ KC g g' it) := by
  obtain ⟨g', X⟩ := ECo_36 b (fun hp => (G hp).1) O sd
  exact ⟨g', fun hp => ⟨⟨(X hp).1, GQ.kc (G hp).2 (X hp).2.2 (fun _ h => absurd (h.symm.trans (O hp).2.2.1) (by decide))⟩, (X hp).2⟩⟩
theorem EN_37 {P : Prop} {s t : rS} {k : Nat} {g : Nat → Int → Int} {r x2 x3 : Int} (b d : Int) (hk : rgk k) (G : Im P (GS s k g)) (R : Im P (RG s t k 0)) (hr : r = rF s k 7) (hN : rF t k 7 = rF s k 7 + 1) (h0 : tr t k 0 r = 37) (h1 : tr t k 1 r = x2) (h2 : tr t k 2 r = x3) (h5 : tr t k 5 r = 0) (sd : Im P (0 < rF s k 7 ∧ (0 ≤ b ∧ b ≤ 9000) ∧ (-1 ≤ d ∧ d ≤ 21) ∧ rF s k 12 ≤ rF t k 12 ∧ (x2 = 0 ∧ x3 = 0) ∧ (True))) (hC : rF t k 38 = rF s k 38 := by first | assumption | omega | (simp only [rF_sT, rF_sA]; omega)): ∃ g', Im P (GS t k g' ∧ GK g g' (rF s k 7) (rF t k 7) 0 ∧ OP t k g' r 37 d b (-1) b 0 ∧ g' 6 r = 0) := by
  obtain ⟨g', X⟩ := ENo_37 b d hk (fun hp => (G hp).1) R hr hN h0 h1 h2 h5 sd
  exact ⟨g', fun hp => ⟨⟨(X hp).1, GQ.en hk (G hp).2 (R hp) hN hC (fun j m hm _ _ _ => (X hp).2.1.2.1 j m hm (Or.inr (Or.inr rfl))) (by have := (X hp).2.2.1.2.2.2.2.1; rw [hr] at this; exact this)⟩, (X hp).2⟩⟩
theorem EV_37 {P : Prop} {s t : rS} {k S : Nat} {g : Nat → Int → Int} {r v x3 n0 l h d' : Int} (b d : Int) (hk : rgk k) (G : Im P (GS s k g)) (V : Im P (NR s k g S v n0 l h d')) (hso : ∀ q, so S q → so 1 q) (R : Im P (RG s t k 0)) (hr : r = rF s k 7) (hN : rF t k 7 = rF s k 7 + 1) (h0 : tr t k 0 r = 37) (h1 : tr t k 1 r = v) (h2 : tr t k 2 r = x3) (h5 : tr t k 5 r = 0) (sd : Im P (0 < rF s k 7 ∧ (0 ≤ b ∧ b ≤ 9000) ∧ (-1 ≤ d ∧ d ≤ 21) ∧ rF s k 12 ≤ rF t k 12 ∧ (x3 = 0) ∧ (b ≤ l ∧ 0 ≤ l) ∧ d + 1 ≤ d')) (hC : rF t k 38 = rF s k 38 := by first | assumption | omega | (simp only [rF_sT, rF_sA]; omega)): ∃ g', Im P (GS t k g' ∧ KV g g' (rF s k 7) (rF t k 7) v ∧ OP t k g' r 37 d b h h 0 ∧ LI t k g' r 1 37 v ∧ (g 2 v ≤ 9000 ∧ g 3 v = 0) ∧ g' 6 r = 0) := by
  obtain ⟨g', X⟩ := EVo_37 b d hk (fun hp => (G hp).1) V hso R hr hN h0 h1 h2 h5 sd
  exact ⟨g', fun hp => ⟨⟨(X hp).1, GQ.en hk (G hp).2 (R hp) hN hC (fun j m hm j3 j5 j8 => by
    by_cases e : m = v
    · subst e; exact (X hp).2.1 j j3 j5 j8
    · exact (X hp).2.2.1.2.2.1 j m hm e) (by have := (X hp).2.2.2.1.2.2.2.2.1; rw [hr] at this; exact this)⟩, (X hp).2.2⟩⟩
theorem EC_37 {P : Prop} {s : rS} {k : Nat} {g : Nat → Int → Int} {it d lo x y e : Int} (b : Int) (G : Im P (GS s k g)) (O : Im P (OP s k g it 37 d lo x y e)) (sd : Im P (x ≤ b ∧ y ≤ b ∧ b ≤ 9000)) : ∃ g', Im P (GS s k g' ∧ NR s k g' 2 it it lo b d ∧ KC g g' it) := by
  obtain ⟨g', X⟩ := ECo_37 b (fun hp => (G hp).1) O sd
  exact ⟨g', fun hp => ⟨⟨(X hp).1, GQ.kc (G hp).2 (X hp).2.2 (fun _ h => absurd (h.symm.trans (O hp).2.2.1) (by decide))⟩, (X hp).2⟩⟩
theorem EN_38 {P : Prop} {s t : rS} {k : Nat} {g : Nat → Int → Int} {r x2 x3 : Int} (b d : Int) (hk : rgk k) (G : Im P (GS s k g)) (R : Im P (RG s t k 0)) (hr : r = rF s k 7) (hN : rF t k 7 = rF s k 7 + 1) (h0 : tr t k 0 r = 38) (h1 : tr t k 1 r = x2) (h2 : tr t k 2 r = x3) (h5 : tr t k 5 r = 0) (sd : Im P (0 < rF s k 7 ∧ (0 ≤ b ∧ b ≤ 9000) ∧ (-1 ≤ d ∧ d ≤ 21) ∧ rF s k 12 ≤ rF t k 12 ∧ (x3 = 0) ∧ (True))) (hC : rF t k 38 = rF s k 38 := by first | assumption | omega | (simp only [rF_sT, rF_sA]; omega)): ∃ g', Im P (GS t k g' ∧ GK g g' (rF s k 7) (rF t k 7) 0 ∧ OP t k g' r 38 d b (-1) b 0 ∧ g' 6 r = 0) := by
  obtain ⟨g', X⟩ := ENo_38 b d hk (fun hp => (G hp).1) R hr hN h0 h1 h2 h5 sd
  exact ⟨g', fun hp => ⟨⟨(X hp).1, GQ.en hk (G hp).2 (R hp) hN hC (fun j m hm _ _ _ => (X hp).2.1.2.1 j m hm (Or.inr (Or.inr rfl))) (by have := (X hp).2.2.1.2.2.2.2.1; rw [hr] at this; exact this)⟩, (X hp).2⟩⟩
theorem EC_38 {P : Prop} {s : rS} {k : Nat} {g : Nat → Int → Int} {it d lo x y e : Int} (b : Int) (G : Im P (GS s k g)) (O : Im P (OP s k g it 38 d lo x y e)) (sd : Im P (x ≤ b ∧ y ≤ b ∧ b ≤ 9000)) : ∃ g', Im P (GS s k g' ∧ NR s k g' 2 it it lo b d ∧ KC g g' it) := by
  obtain ⟨g', X⟩ := ECo_38 b (fun hp => (G hp).1) O sd
  exact ⟨g', fun hp => ⟨⟨(X hp).1, GQ.kc (G hp).2 (X hp).2.2 (fun _ h => absurd (h.symm.trans (O hp).2.2.1) (by decide))⟩, (X hp).2⟩⟩
theorem EN_39 {P : Prop} {s t : rS} {k : Nat} {g : Nat → Int → Int} {r x2 x3 : Int} (b d : Int) (hk : rgk k) (G : Im P (GS s k g)) (R : Im P (RG s t k 0)) (hr : r = rF s k 7) (hN : rF t k 7 = rF s k 7 + 1) (h0 : tr t k 0 r = 39) (h1 : tr t k 1 r = x2) (h2 : tr t k 2 r = x3) (h5 : tr t k 5 r = 0) (sd : Im P (0 < rF s k 7 ∧ (0 ≤ b ∧ b ≤ 9000) ∧ (-1 ≤ d ∧ d ≤ 21) ∧ rF s k 12 ≤ rF t k 12 ∧ (x2 = 0) ∧ (True))) (hC : rF t k 38 = rF s k 38 := by first | assumption | omega | (simp only [rF_sT, rF_sA]; omega)): ∃ g', Im P (GS t k g' ∧ GK g g' (rF s k 7) (rF t k 7) 0 ∧ OP t k g' r 39 d b (-1) b 0 ∧ g' 6 r = 0) := by
  obtain ⟨g', X⟩ := ENo_39 b d hk (fun hp => (G hp).1) R hr hN h0 h1 h2 h5 sd
  exact ⟨g', fun hp => ⟨⟨(X hp).1, GQ.en hk (G hp).2 (R hp) hN hC (fun j m hm _ _ _ => (X hp).2.1.2.1 j m hm (Or.inr (Or.inr rfl))) (by have := (X hp).2.2.1.2.2.2.2.1; rw [hr] at this; exact this)⟩, (X hp).2⟩⟩
theorem EV_39 {P : Prop} {s t : rS} {k S : Nat} {g : Nat → Int → Int} {r v x3 n0 l h d' : Int} (b d : Int) (hk : rgk k) (G : Im P (GS s k g)) (V : Im P (NR s k g S v n0 l h d')) (hso : ∀ q, so S q → so 1 q) (R : Im P (RG s t k 0)) (hr : r = rF s k 7) (hN : rF t k 7 = rF s k 7 + 1) (h0 : tr t k 0 r = 39) (h1 : tr t k 1 r = v) (h2 : tr t k 2 r = x3) (h5 : tr t k 5 r = 0) (sd : Im P (0 < rF s k 7 ∧ (0 ≤ b ∧ b ≤ 9000) ∧ (-1 ≤ d ∧ d ≤ 21) ∧ rF s k 12 ≤ rF t k 12 ∧ (True) ∧ (b ≤ l ∧ 0 ≤ l) ∧ d + 1 ≤ d')) (hC : rF t k 38 = rF s k 38 := by first | assumption | omega | (simp only [rF_sT, rF_sA]; omega)): ∃ g', Im P (GS t k g' ∧ KV g g' (rF s k 7) (rF t k 7) v ∧ OP t k g' r 39 d b h h 0 ∧ LI t k g' r 1 39 v ∧ (g 2 v ≤ 9000 ∧ g 3 v = 0) ∧ g' 6 r = 0) := by
  obtain ⟨g', X⟩ := EVo_39 b d hk (fun hp => (G hp).1) V hso R hr hN h0 h1 h2 h5 sd
  exact ⟨g', fun hp => ⟨⟨(X hp).1, GQ.en hk (G hp).2 (R hp) hN hC (fun j m hm j3 j5 j8 => by
    by_cases e : m = v
    · subst e; exact (X hp).2.1 j j3 j5 j8
    · exact (X hp).2.2.1.2.2.1 j m hm e) (by have := (X hp).2.2.2.1.2.2.2.2.1; rw [hr] at this; exact this)⟩, (X hp).2.2⟩⟩
theorem EC_39 {P : Prop} {s : rS} {k : Nat} {g : Nat → Int → Int} {it d lo x y e : Int} (b : Int) (G : Im P (GS s k g)) (O : Im P (OP s k g it 39 d lo x y e)) (sd : Im P (x ≤ b ∧ y ≤ b ∧ b ≤ 9000)) : ∃ g', Im P (GS s k g' ∧ NR s k g' 2 it it lo b d ∧ KC g g' it) := by
  obtain ⟨g', X⟩ := ECo_39 b (fun hp => (G hp).1) O sd
  exact ⟨g', fun hp => ⟨⟨(X hp).1, GQ.kc (G hp).2 (X hp).2.2 (fun _ h => absurd (h.symm.trans (O hp).2.2.1) (by decide))⟩, (X hp).2⟩⟩
theorem EN_40 {P : Prop} {s t : rS} {k : Nat} {g : Nat → Int → Int} {r x2 x3 : Int} (b d : Int) (hk : rgk k) (G : Im P (GS s k g)) (R : Im P (RG s t k 0)) (hr : r = rF s k 7) (hN : rF t k 7 = rF s k 7 + 1) (h0 : tr t k 0 r = 40) (h1 : tr t k 1 r = x2) (h2 : tr t k 2 r = x3) (h5 : tr t k 5 r = 0) (sd : Im P (0 < rF s k 7 ∧ (0 ≤ b ∧ b ≤ 9000) ∧ (-1 ≤ d ∧ d ≤ 21) ∧ rF s k 12 ≤ rF t k 12 ∧ (x2 = 0 ∧ x3 = 0) ∧ (True))) (hC : rF t k 38 = rF s k 38 := by first | assumption | omega | (simp only [rF_sT, rF_sA]; omega)): ∃ g', Im P (GS t k g' ∧ GK g g' (rF s k 7) (rF t k 7) 0 ∧ OP t k g' r 40 d b (-1) b 0 ∧ g' 6 r = 0) := by
  obtain ⟨g', X⟩ := ENo_40 b d hk (fun hp => (G hp).1) R hr hN h0 h1 h2 h5 sd
  exact ⟨g', fun hp => ⟨⟨(X hp).1, GQ.en hk (G hp).2 (R hp) hN hC (fun j m hm _ _ _ => (X hp).2.1.2.1 j m hm (Or.inr (Or.inr rfl))) (by have := (X hp).2.2.1.2.2.2.2.1; rw [hr] at this; exact this)⟩, (X hp).2⟩⟩
theorem EV_40 {P : Prop} {s t : rS} {k S : Nat} {g : Nat → Int → Int} {r v x3 n0 l h d' : Int} (b d : Int) (hk : rgk k) (G : Im P (GS s k g)) (V : Im P (NR s k g S v n0 l h d')) (hso : ∀ q, so S q → so 1 q) (R : Im P (RG s t k 0)) (hr : r = rF s k 7) (hN : rF t k 7 = rF s k 7 + 1) (h0 : tr t k 0 r = 40) (h1 : tr t k 1 r = v) (h2 : tr t k 2 r = x3) (h5 : tr t k 5 r = 0) (sd : Im P (0 < rF s k 7 ∧ (0 ≤ b ∧ b ≤ 9000) ∧ (-1 ≤ d ∧ d ≤ 21) ∧ rF s k 12 ≤ rF t k 12 ∧ (x3 = 0) ∧ (b ≤ l ∧ 0 ≤ l) ∧ d + 1 ≤ d')) (hC : rF t k 38 = rF s k 38 := by first | assumption | omega | (simp only [rF_sT, rF_sA]; omega)): ∃ g', Im P (GS t k g' ∧ KV g g' (rF s k 7) (rF t k 7) v ∧ OP t k g' r 40 d b h h 0 ∧ LI t k g' r 1 40 v ∧ (g 2 v ≤ 9000 ∧ g 3 v = 0)) := by
  obtain ⟨g', X⟩ := EVo_40 b d hk (fun hp => (G hp).1) V hso R hr hN h0 h1 h2 h5 sd
  exact ⟨g', fun hp => ⟨⟨(X hp).1, GQ.en hk (G hp).2 (R hp) hN hC (fun j m hm j3 j5 j8 => by
    by_cases e : m = v
    · subst e; exact (X hp).2.1 j j3 j5 j8
    · exact (X hp).2.2.1.2.2.1 j m hm e) (by have := (X hp).2.2.2.1.2.2.2.2.1; rw [hr] at this; exact this)⟩, (X hp).2.2⟩⟩
theorem EC_40 {P : Prop} {s : rS} {k : Nat} {g : Nat → Int → Int} {it d lo x y e : Int} (b : Int) (G : Im P (GS s k g)) (O : Im P (OP s k g it 40 d lo x y e)) (sd : Im P (x ≤ b ∧ y ≤ b ∧ b ≤ 9000 ∧ (tr s k 2 it ≠ 0 ∧ zz s k (tr s k 2 it) (g 6 it)))) : ∃ g', Im P (GS s k g' ∧ NR s k g' 21 it it lo b d ∧ KC g g' it) := by
  obtain ⟨g', X⟩ := ECo_40 b (fun hp => (G hp).1) O (fun hp => ⟨(sd hp).1, (sd hp).2.1, (sd hp).2.2.1⟩)
  exact ⟨g', fun hp => ⟨⟨(X hp).1, GQ.kc (G hp).2 (X hp).2.2 (fun _ _ => (sd hp).2.2.2)⟩, (X hp).2⟩⟩
theorem EN_42 {P : Prop} {s t : rS} {k : Nat} {g : Nat → Int → Int} {r x2 x3 : Int} (b d : Int) (hk : rgk k) (G : Im P (GS s k g)) (R : Im P (RG s t k 0)) (hr : r = rF s k 7) (hN : rF t k 7 = rF s k 7 + 1) (h0 : tr t k 0 r = 42) (h1 : tr t k 1 r = x2) (h2 : tr t k 2 r = x3) (h5 : tr t k 5 r = 0) (sd : Im P (0 < rF s k 7 ∧ (0 ≤ b ∧ b ≤ 9000) ∧ (-1 ≤ d ∧ d ≤ 21) ∧ rF s k 12 ≤ rF t k 12 ∧ (True) ∧ (0 ≤ x2 ∧ x2 < rF t k 12))) (hC : rF t k 38 = rF s k 38 := by first | assumption | omega | (simp only [rF_sT, rF_sA]; omega)): ∃ g', Im P (GS t k g' ∧ GK g g' (rF s k 7) (rF t k 7) 0 ∧ OP t k g' r 42 d b (-1) b 0 ∧ g' 6 r = 0) := by
  obtain ⟨g', X⟩ := ENo_42 b d hk (fun hp => (G hp).1) R hr hN h0 h1 h2 h5 sd
  exact ⟨g', fun hp => ⟨⟨(X hp).1, GQ.en hk (G hp).2 (R hp) hN hC (fun j m hm _ _ _ => (X hp).2.1.2.1 j m hm (Or.inr (Or.inr rfl))) (by have := (X hp).2.2.1.2.2.2.2.1; rw [hr] at this; exact this)⟩, (X hp).2⟩⟩
theorem EC_42 {P : Prop} {s : rS} {k : Nat} {g : Nat → Int → Int} {it d lo x y e : Int} (b : Int) (G : Im P (GS s k g)) (O : Im P (OP s k g it 42 d lo x y e)) (sd : Im P (x ≤ b ∧ y ≤ b ∧ b ≤ 9000)) : ∃ g', Im P (GS s k g' ∧ NR s k g' 3 it it lo b d ∧ KC g g' it) := by
  obtain ⟨g', X⟩ := ECo_42 b (fun hp => (G hp).1) O sd
  exact ⟨g', fun hp => ⟨⟨(X hp).1, GQ.kc (G hp).2 (X hp).2.2 (fun _ h => absurd (h.symm.trans (O hp).2.2.1) (by decide))⟩, (X hp).2⟩⟩
theorem EN_43 {P : Prop} {s t : rS} {k : Nat} {g : Nat → Int → Int} {r x2 x3 : Int} (b d : Int) (hk : rgk k) (G : Im P (GS s k g)) (R : Im P (RG s t k 0)) (hr : r = rF s k 7) (hN : rF t k 7 = rF s k 7 + 1) (h0 : tr t k 0 r = 43) (h1 : tr t k 1 r = x2) (h2 : tr t k 2 r = x3) (h5 : tr t k 5 r = 0) (sd : Im P (0 < rF s k 7 ∧ (0 ≤ b ∧ b ≤ 9000) ∧ (-1 ≤ d ∧ d ≤ 21) ∧ rF s k 12 ≤ rF t k 12 ∧ (x2 = 0) ∧ (True))) (hC : rF t k 38 = rF s k 38 := by first | assumption | omega | (simp only [rF_sT, rF_sA]; omega)): ∃ g', Im P (GS t k g' ∧ GK g g' (rF s k 7) (rF t k 7) 0 ∧ OP t k g' r 43 d b (-1) b 0 ∧ g' 6 r = 0) := by
  obtain ⟨g', X⟩ := ENo_43 b d hk (fun hp => (G hp).1) R hr hN h0 h1 h2 h5 sd
  exact ⟨g', fun hp => ⟨⟨(X hp).1, GQ.en hk (G hp).2 (R hp) hN hC (fun j m hm _ _ _ => (X hp).2.1.2.1 j m hm (Or.inr (Or.inr rfl))) (by have := (X hp).2.2.1.2.2.2.2.1; rw [hr] at this; exact this)⟩, (X hp).2⟩⟩
theorem EC_43 {P : Prop} {s : rS} {k : Nat} {g : Nat → Int → Int} {it d lo x y e : Int} (b : Int) (G : Im P (GS s k g)) (O : Im P (OP s k g it 43 d lo x y e)) (sd : Im P (x ≤ b ∧ y ≤ b ∧ b ≤ 9000)) : ∃ g', Im P (GS s k g' ∧ NR s k g' 3 it it lo b d ∧ KC g g' it) := by
  obtain ⟨g', X⟩ := ECo_43 b (fun hp => (G hp).1) O sd
  exact ⟨g', fun hp => ⟨⟨(X hp).1, GQ.kc (G hp).2 (X hp).2.2 (fun _ h => absurd (h.symm.trans (O hp).2.2.1) (by decide))⟩, (X hp).2⟩⟩
theorem EN_44 {P : Prop} {s t : rS} {k : Nat} {g : Nat → Int → Int} {r x2 x3 : Int} (b d : Int) (hk : rgk k) (G : Im P (GS s k g)) (R : Im P (RG s t k 0)) (hr : r = rF s k 7) (hN : rF t k 7 = rF s k 7 + 1) (h0 : tr t k 0 r = 44) (h1 : tr t k 1 r = x2) (h2 : tr t k 2 r = x3) (h5 : tr t k 5 r = 0) (sd : Im P (0 < rF s k 7 ∧ (0 ≤ b ∧ b ≤ 9000) ∧ (-1 ≤ d ∧ d ≤ 21) ∧ rF s k 12 ≤ rF t k 12 ∧ (x2 = 0) ∧ (True))) (hC : rF t k 38 = rF s k 38 := by first | assumption | omega | (simp only [rF_sT, rF_sA]; omega)): ∃ g', Im P (GS t k g' ∧ GK g g' (rF s k 7) (rF t k 7) 0 ∧ OP t k g' r 44 d b (-1) b 0 ∧ g' 6 r = 0) := by
  obtain ⟨g', X⟩ := ENo_44 b d hk (fun hp => (G hp).1) R hr hN h0 h1 h2 h5 sd
  exact ⟨g', fun hp => ⟨⟨(X hp).1, GQ.en hk (G hp).2 (R hp) hN hC (fun j m hm _ _ _ => (X hp).2.1.2.1 j m hm (Or.inr (Or.inr rfl))) (by have := (X hp).2.2.1.2.2.2.2.1; rw [hr] at this; exact this)⟩, (X hp).2⟩⟩
theorem EV_44 {P : Prop} {s t : rS} {k S : Nat} {g : Nat → Int → Int} {r v x3 n0 l h d' : Int} (b d : Int) (hk : rgk k) (G : Im P (GS s k g)) (V : Im P (NR s k g S v n0 l h d')) (hso : ∀ q, so S q → so 5 q) (R : Im P (RG s t k 0)) (hr : r = rF s k 7) (hN : rF t k 7 = rF s k 7 + 1) (h0 : tr t k 0 r = 44) (h1 : tr t k 1 r = v) (h2 : tr t k 2 r = x3) (h5 : tr t k 5 r = 0) (sd : Im P (0 < rF s k 7 ∧ (0 ≤ b ∧ b ≤ 9000) ∧ (-1 ≤ d ∧ d ≤ 21) ∧ rF s k 12 ≤ rF t k 12 ∧ (True) ∧ (b ≤ l ∧ 0 ≤ l) ∧ d + 0 ≤ d')) (hC : rF t k 38 = rF s k 38 := by first | assumption | omega | (simp only [rF_sT, rF_sA]; omega)): ∃ g', Im P (GS t k g' ∧ KV g g' (rF s k 7) (rF t k 7) v ∧ OP t k g' r 44 d b h h 0 ∧ LI t k g' r 1 44 v ∧ (g 2 v ≤ 9000 ∧ g 3 v = 0)) := by
  obtain ⟨g', X⟩ := EVo_44 b d hk (fun hp => (G hp).1) V hso R hr hN h0 h1 h2 h5 sd
  exact ⟨g', fun hp => ⟨⟨(X hp).1, GQ.en hk (G hp).2 (R hp) hN hC (fun j m hm j3 j5 j8 => by
    by_cases e : m = v
    · subst e; exact (X hp).2.1 j j3 j5 j8
    · exact (X hp).2.2.1.2.2.1 j m hm e) (by have := (X hp).2.2.2.1.2.2.2.2.1; rw [hr] at this; exact this)⟩, (X hp).2.2⟩⟩
theorem EC_44 {P : Prop} {s : rS} {k : Nat} {g : Nat → Int → Int} {it d lo x y e : Int} (b : Int) (G : Im P (GS s k g)) (O : Im P (OP s k g it 44 d lo x y e)) (sd : Im P (x ≤ b ∧ y ≤ b ∧ b ≤ 9000 ∧ 0 < g 6 it)) : ∃ g', Im P (GS s k g' ∧ NR s k g' 4 it it lo b d ∧ KC g g' it) := by
  obtain ⟨g', X⟩ := ECo_44 b (fun hp => (G hp).1) O sd
  exact ⟨g', fun hp => ⟨⟨(X hp).1, GQ.kc (G hp).2 (X hp).2.2 (fun _ h => absurd (h.symm.trans (O hp).2.2.1) (by decide))⟩, (X hp).2⟩⟩
theorem EN_45 {P : Prop} {s t : rS} {k : Nat} {g : Nat → Int → Int} {r x2 x3 : Int} (b d : Int) (hk : rgk k) (G : Im P (GS s k g)) (R : Im P (RG s t k 0)) (hr : r = rF s k 7) (hN : rF t k 7 = rF s k 7 + 1) (h0 : tr t k 0 r = 45) (h1 : tr t k 1 r = x2) (h2 : tr t k 2 r = x3) (h5 : tr t k 5 r = 0) (sd : Im P (0 < rF s k 7 ∧ (0 ≤ b ∧ b ≤ 9000) ∧ (-1 ≤ d ∧ d ≤ 21) ∧ rF s k 12 ≤ rF t k 12 ∧ (x3 = 0) ∧ (True))) (hC : rF t k 38 = rF s k 38 := by first | assumption | omega | (simp only [rF_sT, rF_sA]; omega)): ∃ g', Im P (GS t k g' ∧ GK g g' (rF s k 7) (rF t k 7) 0 ∧ OP t k g' r 45 d b (-1) b 0 ∧ g' 6 r = 0) := by
  obtain ⟨g', X⟩ := ENo_45 b d hk (fun hp => (G hp).1) R hr hN h0 h1 h2 h5 sd
  exact ⟨g', fun hp => ⟨⟨(X hp).1, GQ.en hk (G hp).2 (R hp) hN hC (fun j m hm _ _ _ => (X hp).2.1.2.1 j m hm (Or.inr (Or.inr rfl))) (by have := (X hp).2.2.1.2.2.2.2.1; rw [hr] at this; exact this)⟩, (X hp).2⟩⟩
theorem EC_45 {P : Prop} {s : rS} {k : Nat} {g : Nat → Int → Int} {it d lo x y e : Int} (b : Int) (G : Im P (GS s k g)) (O : Im P (OP s k g it 45 d lo x y e)) (sd : Im P (x ≤ b ∧ y ≤ b ∧ b ≤ 9000)) : ∃ g', Im P (GS s k g' ∧ NR s k g' 5 it it lo b d ∧ KC g g' it) := by
  obtain ⟨g', X⟩ := ECo_45 b (fun hp => (G hp).1) O sd
  exact ⟨g', fun hp => ⟨⟨(X hp).1, GQ.kc (G hp).2 (X hp).2.2 (fun _ h => absurd (h.symm.trans (O hp).2.2.1) (by decide))⟩, (X hp).2⟩⟩
theorem EN_46 {P : Prop} {s t : rS} {k : Nat} {g : Nat → Int → Int} {r x2 x3 : Int} (b d : Int) (hk : rgk k) (G : Im P (GS s k g)) (R : Im P (RG s t k 0)) (hr : r = rF s k 7) (hN : rF t k 7 = rF s k 7 + 1) (h0 : tr t k 0 r = 46) (h1 : tr t k 1 r = x2) (h2 : tr t k 2 r = x3) (h5 : tr t k 5 r = 0) (sd : Im P (0 < rF s k 7 ∧ (0 ≤ b ∧ b ≤ 9000) ∧ (-1 ≤ d ∧ d ≤ 21) ∧ rF s k 12 ≤ rF t k 12 ∧ (x2 = 0 ∧ x3 = 0) ∧ (True))) (hC : rF t k 38 = rF s k 38 := by first | assumption | omega | (simp only [rF_sT, rF_sA]; omega)): ∃ g', Im P (GS t k g' ∧ GK g g' (rF s k 7) (rF t k 7) 0 ∧ OP t k g' r 46 d b (-1) b 0 ∧ g' 6 r = 0) := by
  obtain ⟨g', X⟩ := ENo_46 b d hk (fun hp => (G hp).1) R hr hN h0 h1 h2 h5 sd
  exact ⟨g', fun hp => ⟨⟨(X hp).1, GQ.en hk (G hp).2 (R hp) hN hC (fun j m hm _ _ _ => (X hp).2.1.2.1 j m hm (Or.inr (Or.inr rfl))) (by have := (X hp).2.2.1.2.2.2.2.1; rw [hr] at this; exact this)⟩, (X hp).2⟩⟩
theorem EV_46 {P : Prop} {s t : rS} {k S : Nat} {g : Nat → Int → Int} {r v x3 n0 l h d' : Int} (b d : Int) (hk : rgk k) (G : Im P (GS s k g)) (V : Im P (NR s k g S v n0 l h d')) (hso : ∀ q, so S q → so 1 q) (R : Im P (RG s t k 0)) (hr : r = rF s k 7) (hN : rF t k 7 = rF s k 7 + 1) (h0 : tr t k 0 r = 46) (h1 : tr t k 1 r = v) (h2 : tr t k 2 r = x3) (h5 : tr t k 5 r = 0) (sd : Im P (0 < rF s k 7 ∧ (0 ≤ b ∧ b ≤ 9000) ∧ (-1 ≤ d ∧ d ≤ 21) ∧ rF s k 12 ≤ rF t k 12 ∧ (x3 = 0) ∧ (b ≤ l ∧ 0 ≤ l) ∧ d + 1 ≤ d')) (hC : rF t k 38 = rF s k 38 := by first | assumption | omega | (simp only [rF_sT, rF_sA]; omega)): ∃ g', Im P (GS t k g' ∧ KV g g' (rF s k 7) (rF t k 7) v ∧ OP t k g' r 46 d b h h 0 ∧ LI t k g' r 1 46 v ∧ (g 2 v ≤ 9000 ∧ g 3 v = 0) ∧ g' 6 r = 0) := by
  obtain ⟨g', X⟩ := EVo_46 b d hk (fun hp => (G hp).1) V hso R hr hN h0 h1 h2 h5 sd
  exact ⟨g', fun hp => ⟨⟨(X hp).1, GQ.en hk (G hp).2 (R hp) hN hC (fun j m hm j3 j5 j8 => by
    by_cases e : m = v
    · subst e; exact (X hp).2.1 j j3 j5 j8
    · exact (X hp).2.2.1.2.2.1 j m hm e) (by have := (X hp).2.2.2.1.2.2.2.2.1; rw [hr] at this; exact this)⟩, (X hp).2.2⟩⟩
theorem EC_46 {P : Prop} {s : rS} {k : Nat} {g : Nat → Int → Int} {it d lo x y e : Int} (b : Int) (G : Im P (GS s k g)) (O : Im P (OP s k g it 46 d lo x y e)) (sd : Im P (x ≤ b ∧ y ≤ b ∧ b ≤ 9000)) : ∃ g', Im P (GS s k g' ∧ NR s k g' 5 it it lo b d ∧ KC g g' it) := by
  obtain ⟨g', X⟩ := ECo_46 b (fun hp => (G hp).1) O sd
  exact ⟨g', fun hp => ⟨⟨(X hp).1, GQ.kc (G hp).2 (X hp).2.2 (fun _ h => absurd (h.symm.trans (O hp).2.2.1) (by decide))⟩, (X hp).2⟩⟩
theorem EN_47 {P : Prop} {s t : rS} {k : Nat} {g : Nat → Int → Int} {r x2 x3 : Int} (b d : Int) (hk : rgk k) (G : Im P (GS s k g)) (R : Im P (RG s t k 0)) (hr : r = rF s k 7) (hN : rF t k 7 = rF s k 7 + 1) (h0 : tr t k 0 r = 47) (h1 : tr t k 1 r = x2) (h2 : tr t k 2 r = x3) (h5 : tr t k 5 r = 0) (sd : Im P (0 < rF s k 7 ∧ (0 ≤ b ∧ b ≤ 9000) ∧ (-1 ≤ d ∧ d ≤ 21) ∧ rF s k 12 ≤ rF t k 12 ∧ (x2 = 0) ∧ (True))) (hC : rF t k 38 = rF s k 38 := by first | assumption | omega | (simp only [rF_sT, rF_sA]; omega)): ∃ g', Im P (GS t k g' ∧ GK g g' (rF s k 7) (rF t k 7) 0 ∧ OP t k g' r 47 d b (-1) b 0 ∧ g' 6 r = 0) := by
  obtain ⟨g', X⟩ := ENo_47 b d hk (fun hp => (G hp).1) R hr hN h0 h1 h2 h5 sd
  exact ⟨g', fun hp => ⟨⟨(X hp).1, GQ.en hk (G hp).2 (R hp) hN hC (fun j m hm _ _ _ => (X hp).2.1.2.1 j m hm (Or.inr (Or.inr rfl))) (by have := (X hp).2.2.1.2.2.2.2.1; rw [hr] at this; exact this)⟩, (X hp).2⟩⟩
theorem EV_47 {P : Prop} {s t : rS} {k S : Nat} {g : Nat → Int → Int} {r v x3 n0 l h d' : Int} (b d : Int) (hk : rgk k) (G : Im P (GS s k g)) (V : Im P (NR s k g S v n0 l h d')) (hso : ∀ q, so S q → so 10 q) (R : Im P (RG s t k 0)) (hr : r = rF s k 7) (hN : rF t k 7 = rF s k 7 + 1) (h0 : tr t k 0 r = 47) (h1 : tr t k 1 r = v) (h2 : tr t k 2 r = x3) (h5 : tr t k 5 r = 0) (sd : Im P (0 < rF s k 7 ∧ (0 ≤ b ∧ b ≤ 9000) ∧ (-1 ≤ d ∧ d ≤ 21) ∧ rF s k 12 ≤ rF t k 12 ∧ (True) ∧ (b ≤ l ∧ 0 ≤ l) ∧ d + (-100) ≤ d')) (hC : rF t k 38 = rF s k 38 := by first | assumption | omega | (simp only [rF_sT, rF_sA]; omega)): ∃ g', Im P (GS t k g' ∧ KV g g' (rF s k 7) (rF t k 7) v ∧ OP t k g' r 47 d b h h 0 ∧ LI t k g' r 1 47 v ∧ (g 2 v ≤ 9000 ∧ g 3 v = 0) ∧ g' 6 r = 0) := by
  obtain ⟨g', X⟩ := EVo_47 b d hk (fun hp => (G hp).1) V hso R hr hN h0 h1 h2 h5 sd
  exact ⟨g', fun hp => ⟨⟨(X hp).1, GQ.en hk (G hp).2 (R hp) hN hC (fun j m hm j3 j5 j8 => by
    by_cases e : m = v
    · subst e; exact (X hp).2.1 j j3 j5 j8
    · exact (X hp).2.2.1.2.2.1 j m hm e) (by have := (X hp).2.2.2.1.2.2.2.2.1; rw [hr] at this; exact this)⟩, (X hp).2.2⟩⟩
theorem EC_47 {P : Prop} {s : rS} {k : Nat} {g : Nat → Int → Int} {it d lo x y e : Int} (b : Int) (G : Im P (GS s k g)) (O : Im P (OP s k g it 47 d lo x y e)) (sd : Im P (x ≤ b ∧ y ≤ b ∧ b ≤ 9000)) : ∃ g', Im P (GS s k g' ∧ NR s k g' 5 it it lo b d ∧ KC g g' it) := by
  obtain ⟨g', X⟩ := ECo_47 b (fun hp => (G hp).1) O sd
  exact ⟨g', fun hp => ⟨⟨(X hp).1, GQ.kc (G hp).2 (X hp).2.2 (fun _ h => absurd (h.symm.trans (O hp).2.2.1) (by decide))⟩, (X hp).2⟩⟩
theorem EN_50 {P : Prop} {s t : rS} {k : Nat} {g : Nat → Int → Int} {r x2 x3 : Int} (b d : Int) (hk : rgk k) (G : Im P (GS s k g)) (R : Im P (RG s t k 0)) (hr : r = rF s k 7) (hN : rF t k 7 = rF s k 7 + 1) (h0 : tr t k 0 r = 50) (h1 : tr t k 1 r = x2) (h2 : tr t k 2 r = x3) (h5 : tr t k 5 r = 0) (sd : Im P (0 < rF s k 7 ∧ (0 ≤ b ∧ b ≤ 9000) ∧ (-1 ≤ d ∧ d ≤ 21) ∧ rF s k 12 ≤ rF t k 12 ∧ (x2 = 0) ∧ (True))) (hC : rF t k 38 = rF s k 38 := by first | assumption | omega | (simp only [rF_sT, rF_sA]; omega)): ∃ g', Im P (GS t k g' ∧ GK g g' (rF s k 7) (rF t k 7) 0 ∧ OP t k g' r 50 d b (-1) b 0 ∧ g' 6 r = 0) := by
  obtain ⟨g', X⟩ := ENo_50 b d hk (fun hp => (G hp).1) R hr hN h0 h1 h2 h5 sd
  exact ⟨g', fun hp => ⟨⟨(X hp).1, GQ.en hk (G hp).2 (R hp) hN hC (fun j m hm _ _ _ => (X hp).2.1.2.1 j m hm (Or.inr (Or.inr rfl))) (by have := (X hp).2.2.1.2.2.2.2.1; rw [hr] at this; exact this)⟩, (X hp).2⟩⟩
theorem EV_50 {P : Prop} {s t : rS} {k S : Nat} {g : Nat → Int → Int} {r v x3 n0 l h d' : Int} (b d : Int) (hk : rgk k) (G : Im P (GS s k g)) (V : Im P (NR s k g S v n0 l h d')) (hso : ∀ q, so S q → so 1 q) (R : Im P (RG s t k 0)) (hr : r = rF s k 7) (hN : rF t k 7 = rF s k 7 + 1) (h0 : tr t k 0 r = 50) (h1 : tr t k 1 r = v) (h2 : tr t k 2 r = x3) (h5 : tr t k 5 r = 0) (sd : Im P (0 < rF s k 7 ∧ (0 ≤ b ∧ b ≤ 9000) ∧ (-1 ≤ d ∧ d ≤ 21) ∧ rF s k 12 ≤ rF t k 12 ∧ (True) ∧ (b ≤ l ∧ 0 ≤ l) ∧ d + 1 ≤ d')) (hC : rF t k 38 = rF s k 38 := by first | assumption | omega | (simp only [rF_sT, rF_sA]; omega)): ∃ g', Im P (GS t k g' ∧ KV g g' (rF s k 7) (rF t k 7) v ∧ OP t k g' r 50 d b h h 0 ∧ LI t k g' r 1 50 v ∧ (g 2 v ≤ 9000 ∧ g 3 v = 0) ∧ g' 6 r = 0) := by
  obtain ⟨g', X⟩ := EVo_50 b d hk (fun hp => (G hp).1) V hso R hr hN h0 h1 h2 h5 sd
  exact ⟨g', fun hp => ⟨⟨(X hp).1, GQ.en hk (G hp).2 (R hp) hN hC (fun j m hm j3 j5 j8 => by
    by_cases e : m = v
    · subst e; exact (X hp).2.1 j j3 j5 j8
    · exact (X hp).2.2.1.2.2.1 j m hm e) (by have := (X hp).2.2.2.1.2.2.2.2.1; rw [hr] at this; exact this)⟩, (X hp).2.2⟩⟩
theorem EC_50 {P : Prop} {s : rS} {k : Nat} {g : Nat → Int → Int} {it d lo x y e : Int} (b : Int) (G : Im P (GS s k g)) (O : Im P (OP s k g it 50 d lo x y e)) (sd : Im P (x ≤ b ∧ y ≤ b ∧ b ≤ 9000)) : ∃ g', Im P (GS s k g' ∧ NR s k g' 6 it it lo b d ∧ KC g g' it) := by
  obtain ⟨g', X⟩ := ECo_50 b (fun hp => (G hp).1) O sd
  exact ⟨g', fun hp => ⟨⟨(X hp).1, GQ.kc (G hp).2 (X hp).2.2 (fun _ h => absurd (h.symm.trans (O hp).2.2.1) (by decide))⟩, (X hp).2⟩⟩
theorem EN_51 {P : Prop} {s t : rS} {k : Nat} {g : Nat → Int → Int} {r x2 x3 : Int} (b d : Int) (hk : rgk k) (G : Im P (GS s k g)) (R : Im P (RG s t k 0)) (hr : r = rF s k 7) (hN : rF t k 7 = rF s k 7 + 1) (h0 : tr t k 0 r = 51) (h1 : tr t k 1 r = x2) (h2 : tr t k 2 r = x3) (h5 : tr t k 5 r = 0) (sd : Im P (0 < rF s k 7 ∧ (0 ≤ b ∧ b ≤ 9000) ∧ (-1 ≤ d ∧ d ≤ 21) ∧ rF s k 12 ≤ rF t k 12 ∧ (x2 = 0) ∧ (True))) (hC : rF t k 38 = rF s k 38 := by first | assumption | omega | (simp only [rF_sT, rF_sA]; omega)): ∃ g', Im P (GS t k g' ∧ GK g g' (rF s k 7) (rF t k 7) 0 ∧ OP t k g' r 51 d b (-1) b 0 ∧ g' 6 r = 0) := by
  obtain ⟨g', X⟩ := ENo_51 b d hk (fun hp => (G hp).1) R hr hN h0 h1 h2 h5 sd
  exact ⟨g', fun hp => ⟨⟨(X hp).1, GQ.en hk (G hp).2 (R hp) hN hC (fun j m hm _ _ _ => (X hp).2.1.2.1 j m hm (Or.inr (Or.inr rfl))) (by have := (X hp).2.2.1.2.2.2.2.1; rw [hr] at this; exact this)⟩, (X hp).2⟩⟩
theorem EC_51 {P : Prop} {s : rS} {k : Nat} {g : Nat → Int → Int} {it d lo x y e : Int} (b : Int) (G : Im P (GS s k g)) (O : Im P (OP s k g it 51 d lo x y e)) (sd : Im P (x ≤ b ∧ y ≤ b ∧ b ≤ 9000)) : ∃ g', Im P (GS s k g' ∧ NR s k g' 6 it it lo b d ∧ KC g g' it) := by
  obtain ⟨g', X⟩ := ECo_51 b (fun hp => (G hp).1) O sd
  exact ⟨g', fun hp => ⟨⟨(X hp).1, GQ.kc (G hp).2 (X hp).2.2 (fun _ h => absurd (h.symm.trans (O hp).2.2.1) (by decide))⟩, (X hp).2⟩⟩
theorem EN_52 {P : Prop} {s t : rS} {k : Nat} {g : Nat → Int → Int} {r x2 x3 : Int} (b d : Int) (hk : rgk k) (G : Im P (GS s k g)) (R : Im P (RG s t k 0)) (hr : r = rF s k 7) (hN : rF t k 7 = rF s k 7 + 1) (h0 : tr t k 0 r = 52) (h1 : tr t k 1 r = x2) (h2 : tr t k 2 r = x3) (h5 : tr t k 5 r = 0) (sd : Im P (0 < rF s k 7 ∧ (0 ≤ b ∧ b ≤ 9000) ∧ (-1 ≤ d ∧ d ≤ 21) ∧ rF s k 12 ≤ rF t k 12 ∧ (True) ∧ (0 ≤ x2 ∧ x2 < rF t k 12))) (hC : rF t k 38 = rF s k 38 := by first | assumption | omega | (simp only [rF_sT, rF_sA]; omega)): ∃ g', Im P (GS t k g' ∧ GK g g' (rF s k 7) (rF t k 7) 0 ∧ OP t k g' r 52 d b (-1) b 0 ∧ g' 6 r = 0) := by
  obtain ⟨g', X⟩ := ENo_52 b d hk (fun hp => (G hp).1) R hr hN h0 h1 h2 h5 sd
  exact ⟨g', fun hp => ⟨⟨(X hp).1, GQ.en hk (G hp).2 (R hp) hN hC (fun j m hm _ _ _ => (X hp).2.1.2.1 j m hm (Or.inr (Or.inr rfl))) (by have := (X hp).2.2.1.2.2.2.2.1; rw [hr] at this; exact this)⟩, (X hp).2⟩⟩
theorem EC_52 {P : Prop} {s : rS} {k : Nat} {g : Nat → Int → Int} {it d lo x y e : Int} (b : Int) (G : Im P (GS s k g)) (O : Im P (OP s k g it 52 d lo x y e)) (sd : Im P (x ≤ b ∧ y ≤ b ∧ b ≤ 9000)) : ∃ g', Im P (GS s k g' ∧ NR s k g' 9 it it lo b d ∧ KC g g' it) := by
  obtain ⟨g', X⟩ := ECo_52 b (fun hp => (G hp).1) O sd
  exact ⟨g', fun hp => ⟨⟨(X hp).1, GQ.kc (G hp).2 (X hp).2.2 (fun _ h => absurd (h.symm.trans (O hp).2.2.1) (by decide))⟩, (X hp).2⟩⟩
theorem EN_53 {P : Prop} {s t : rS} {k : Nat} {g : Nat → Int → Int} {r x2 x3 : Int} (b d : Int) (hk : rgk k) (G : Im P (GS s k g)) (R : Im P (RG s t k 0)) (hr : r = rF s k 7) (hN : rF t k 7 = rF s k 7 + 1) (h0 : tr t k 0 r = 53) (h1 : tr t k 1 r = x2) (h2 : tr t k 2 r = x3) (h5 : tr t k 5 r = 0) (sd : Im P (0 < rF s k 7 ∧ (0 ≤ b ∧ b ≤ 9000) ∧ (-1 ≤ d ∧ d ≤ 21) ∧ rF s k 12 ≤ rF t k 12 ∧ (x3 = 0) ∧ (True))) (hC : rF t k 38 = rF s k 38 := by first | assumption | omega | (simp only [rF_sT, rF_sA]; omega)): ∃ g', Im P (GS t k g' ∧ GK g g' (rF s k 7) (rF t k 7) 0 ∧ OP t k g' r 53 d b (-1) b 0 ∧ g' 6 r = 0) := by
  obtain ⟨g', X⟩ := ENo_53 b d hk (fun hp => (G hp).1) R hr hN h0 h1 h2 h5 sd
  exact ⟨g', fun hp => ⟨⟨(X hp).1, GQ.en hk (G hp).2 (R hp) hN hC (fun j m hm _ _ _ => (X hp).2.1.2.1 j m hm (Or.inr (Or.inr rfl))) (by have := (X hp).2.2.1.2.2.2.2.1; rw [hr] at this; exact this)⟩, (X hp).2⟩⟩
theorem EC_53 {P : Prop} {s : rS} {k : Nat} {g : Nat → Int → Int} {it d lo x y e : Int} (b : Int) (G : Im P (GS s k g)) (O : Im P (OP s k g it 53 d lo x y e)) (sd : Im P (x ≤ b ∧ y ≤ b ∧ b ≤ 9000)) : ∃ g', Im P (GS s k g' ∧ NR s k g' 8 it it lo b d ∧ KC g g' it) := by
  obtain ⟨g', X⟩ := ECo_53 b (fun hp => (G hp).1) O sd
  exact ⟨g', fun hp => ⟨⟨(X hp).1, GQ.kc (G hp).2 (X hp).2.2 (fun _ h => absurd (h.symm.trans (O hp).2.2.1) (by decide))⟩, (X hp).2⟩⟩
theorem EN_54 {P : Prop} {s t : rS} {k : Nat} {g : Nat → Int → Int} {r x2 x3 : Int} (b d : Int) (hk : rgk k) (G : Im P (GS s k g)) (R : Im P (RG s t k 0)) (hr : r = rF s k 7) (hN : rF t k 7 = rF s k 7 + 1) (h0 : tr t k 0 r = 54) (h1 : tr t k 1 r = x2) (h2 : tr t k 2 r = x3) (h3 : tr t k 3 r = 0) (h5 : tr t k 5 r = 0) (sd : Im P (0 < rF s k 7 ∧ (0 ≤ b ∧ b ≤ 9000) ∧ (-1 ≤ d ∧ d ≤ 21) ∧ rF s k 12 ≤ rF t k 12 ∧ (True) ∧ (0 ≤ x2 ∧ 0 ≤ x3 ∧ x3 ≤ 4000 ∧ x2 + x3 ≤ 60000))) (hC : rF t k 38 = rF s k 38 := by first | assumption | omega | (simp only [rF_sT, rF_sA]; omega)): ∃ g', Im P (GS t k g' ∧ GK g g' (rF s k 7) (rF t k 7) 0 ∧ OP t k g' r 54 d b (-1) b 0 ∧ g' 6 r = 0) := by
  obtain ⟨g', X⟩ := ENo_54 b d hk (fun hp => (G hp).1) R hr hN h0 h1 h2 h3 h5 sd
  exact ⟨g', fun hp => ⟨⟨(X hp).1, GQ.en hk (G hp).2 (R hp) hN hC (fun j m hm _ _ _ => (X hp).2.1.2.1 j m hm (Or.inr (Or.inr rfl))) (by have := (X hp).2.2.1.2.2.2.2.1; rw [hr] at this; exact this)⟩, (X hp).2⟩⟩
theorem EC_54 {P : Prop} {s : rS} {k : Nat} {g : Nat → Int → Int} {it d lo x y e : Int} (b : Int) (G : Im P (GS s k g)) (O : Im P (OP s k g it 54 d lo x y e)) (sd : Im P (x ≤ b ∧ y ≤ b ∧ b ≤ 9000)) : ∃ g', Im P (GS s k g' ∧ NR s k g' 18 it it lo b d ∧ KC g g' it) := by
  obtain ⟨g', X⟩ := ECo_54 b (fun hp => (G hp).1) O sd
  exact ⟨g', fun hp => ⟨⟨(X hp).1, GQ.kc (G hp).2 (X hp).2.2 (fun _ h => absurd (h.symm.trans (O hp).2.2.1) (by decide))⟩, (X hp).2⟩⟩
theorem EN_55 {P : Prop} {s t : rS} {k : Nat} {g : Nat → Int → Int} {r x2 x3 : Int} (b d : Int) (hk : rgk k) (G : Im P (GS s k g)) (R : Im P (RG s t k 0)) (hr : r = rF s k 7) (hN : rF t k 7 = rF s k 7 + 1) (h0 : tr t k 0 r = 55) (h1 : tr t k 1 r = x2) (h2 : tr t k 2 r = x3) (h5 : tr t k 5 r = 0) (sd : Im P (0 < rF s k 7 ∧ (0 ≤ b ∧ b ≤ 9000) ∧ (-1 ≤ d ∧ d ≤ 21) ∧ rF s k 12 ≤ rF t k 12 ∧ (x2 = 0) ∧ (True))) (hC : rF t k 38 = rF s k 38 := by first | assumption | omega | (simp only [rF_sT, rF_sA]; omega)): ∃ g', Im P (GS t k g' ∧ GK g g' (rF s k 7) (rF t k 7) 0 ∧ OP t k g' r 55 d b (-1) b 0 ∧ g' 6 r = 0) := by
  obtain ⟨g', X⟩ := ENo_55 b d hk (fun hp => (G hp).1) R hr hN h0 h1 h2 h5 sd
  exact ⟨g', fun hp => ⟨⟨(X hp).1, GQ.en hk (G hp).2 (R hp) hN hC (fun j m hm _ _ _ => (X hp).2.1.2.1 j m hm (Or.inr (Or.inr rfl))) (by have := (X hp).2.2.1.2.2.2.2.1; rw [hr] at this; exact this)⟩, (X hp).2⟩⟩
theorem EV_55 {P : Prop} {s t : rS} {k S : Nat} {g : Nat → Int → Int} {r v x3 n0 l h d' : Int} (b d : Int) (hk : rgk k) (G : Im P (GS s k g)) (V : Im P (NR s k g S v n0 l h d')) (hso : ∀ q, so S q → so 15 q) (R : Im P (RG s t k 0)) (hr : r = rF s k 7) (hN : rF t k 7 = rF s k 7 + 1) (h0 : tr t k 0 r = 55) (h1 : tr t k 1 r = v) (h2 : tr t k 2 r = x3) (h5 : tr t k 5 r = 0) (sd : Im P (0 < rF s k 7 ∧ (0 ≤ b ∧ b ≤ 9000) ∧ (-1 ≤ d ∧ d ≤ 21) ∧ rF s k 12 ≤ rF t k 12 ∧ (True) ∧ (b ≤ l ∧ 0 ≤ l) ∧ d + 0 ≤ d')) (hC : rF t k 38 = rF s k 38 := by first | assumption | omega | (simp only [rF_sT, rF_sA]; omega)): ∃ g', Im P (GS t k g' ∧ KV g g' (rF s k 7) (rF t k 7) v ∧ OP t k g' r 55 d b h h 0 ∧ LI t k g' r 1 55 v ∧ (g 2 v ≤ 9000 ∧ g 3 v = 0) ∧ g' 6 r = 0) := by
  obtain ⟨g', X⟩ := EVo_55 b d hk (fun hp => (G hp).1) V hso R hr hN h0 h1 h2 h5 sd
  exact ⟨g', fun hp => ⟨⟨(X hp).1, GQ.en hk (G hp).2 (R hp) hN hC (fun j m hm j3 j5 j8 => by
    by_cases e : m = v
    · subst e; exact (X hp).2.1 j j3 j5 j8
    · exact (X hp).2.2.1.2.2.1 j m hm e) (by have := (X hp).2.2.2.1.2.2.2.2.1; rw [hr] at this; exact this)⟩, (X hp).2.2⟩⟩
theorem EC_55 {P : Prop} {s : rS} {k : Nat} {g : Nat → Int → Int} {it d lo x y e : Int} (b : Int) (G : Im P (GS s k g)) (O : Im P (OP s k g it 55 d lo x y e)) (sd : Im P (x ≤ b ∧ y ≤ b ∧ b ≤ 9000)) : ∃ g', Im P (GS s k g' ∧ NR s k g' 14 it it lo b d ∧ KC g g' it) := by
  obtain ⟨g', X⟩ := ECo_55 b (fun hp => (G hp).1) O sd
  exact ⟨g', fun hp => ⟨⟨(X hp).1, GQ.kc (G hp).2 (X hp).2.2 (fun _ h => absurd (h.symm.trans (O hp).2.2.1) (by decide))⟩, (X hp).2⟩⟩
theorem EN_56 {P : Prop} {s t : rS} {k : Nat} {g : Nat → Int → Int} {r x2 x3 : Int} (b d : Int) (hk : rgk k) (G : Im P (GS s k g)) (R : Im P (RG s t k 0)) (hr : r = rF s k 7) (hN : rF t k 7 = rF s k 7 + 1) (h0 : tr t k 0 r = 56) (h1 : tr t k 1 r = x2) (h2 : tr t k 2 r = x3) (h5 : tr t k 5 r = 0) (sd : Im P (0 < rF s k 7 ∧ (0 ≤ b ∧ b ≤ 9000) ∧ (-1 ≤ d ∧ d ≤ 21) ∧ rF s k 12 ≤ rF t k 12 ∧ (x2 = 0) ∧ (True))) (hC : rF t k 38 = rF s k 38 := by first | assumption | omega | (simp only [rF_sT, rF_sA]; omega)): ∃ g', Im P (GS t k g' ∧ GK g g' (rF s k 7) (rF t k 7) 0 ∧ OP t k g' r 56 d b (-1) b 0 ∧ g' 6 r = 0) := by
  obtain ⟨g', X⟩ := ENo_56 b d hk (fun hp => (G hp).1) R hr hN h0 h1 h2 h5 sd
  exact ⟨g', fun hp => ⟨⟨(X hp).1, GQ.en hk (G hp).2 (R hp) hN hC (fun j m hm _ _ _ => (X hp).2.1.2.1 j m hm (Or.inr (Or.inr rfl))) (by have := (X hp).2.2.1.2.2.2.2.1; rw [hr] at this; exact this)⟩, (X hp).2⟩⟩
theorem EV_56 {P : Prop} {s t : rS} {k S : Nat} {g : Nat → Int → Int} {r v x3 n0 l h d' : Int} (b d : Int) (hk : rgk k) (G : Im P (GS s k g)) (V : Im P (NR s k g S v n0 l h d')) (hso : ∀ q, so S q → so 16 q) (R : Im P (RG s t k 0)) (hr : r = rF s k 7) (hN : rF t k 7 = rF s k 7 + 1) (h0 : tr t k 0 r = 56) (h1 : tr t k 1 r = v) (h2 : tr t k 2 r = x3) (h5 : tr t k 5 r = 0) (sd : Im P (0 < rF s k 7 ∧ (0 ≤ b ∧ b ≤ 9000) ∧ (-1 ≤ d ∧ d ≤ 21) ∧ rF s k 12 ≤ rF t k 12 ∧ (True) ∧ (b ≤ l ∧ 0 ≤ l) ∧ d + 0 ≤ d')) (hC : rF t k 38 = rF s k 38 := by first | assumption | omega | (simp only [rF_sT, rF_sA]; omega)): ∃ g', Im P (GS t k g' ∧ KV g g' (rF s k 7) (rF t k 7) v ∧ OP t k g' r 56 d b h h 0 ∧ LI t k g' r 1 56 v ∧ (g 2 v ≤ 9000 ∧ g 3 v = 0) ∧ g' 6 r = 0) := by
  obtain ⟨g', X⟩ := EVo_56 b d hk (fun hp => (G hp).1) V hso R hr hN h0 h1 h2 h5 sd
  exact ⟨g', fun hp => ⟨⟨(X hp).1, GQ.en hk (G hp).2 (R hp) hN hC (fun j m hm j3 j5 j8 => by
    by_cases e : m = v
    · subst e; exact (X hp).2.1 j j3 j5 j8
    · exact (X hp).2.2.1.2.2.1 j m hm e) (by have := (X hp).2.2.2.1.2.2.2.2.1; rw [hr] at this; exact this)⟩, (X hp).2.2⟩⟩
theorem EC_56 {P : Prop} {s : rS} {k : Nat} {g : Nat → Int → Int} {it d lo x y e : Int} (b : Int) (G : Im P (GS s k g)) (O : Im P (OP s k g it 56 d lo x y e)) (sd : Im P (x ≤ b ∧ y ≤ b ∧ b ≤ 9000)) : ∃ g', Im P (GS s k g' ∧ NR s k g' 15 it it lo b d ∧ KC g g' it) := by
  obtain ⟨g', X⟩ := ECo_56 b (fun hp => (G hp).1) O sd
  exact ⟨g', fun hp => ⟨⟨(X hp).1, GQ.kc (G hp).2 (X hp).2.2 (fun _ h => absurd (h.symm.trans (O hp).2.2.1) (by decide))⟩, (X hp).2⟩⟩
theorem EN_57 {P : Prop} {s t : rS} {k : Nat} {g : Nat → Int → Int} {r x2 x3 : Int} (b d : Int) (hk : rgk k) (G : Im P (GS s k g)) (R : Im P (RG s t k 0)) (hr : r = rF s k 7) (hN : rF t k 7 = rF s k 7 + 1) (h0 : tr t k 0 r = 57) (h1 : tr t k 1 r = x2) (h2 : tr t k 2 r = x3) (h5 : tr t k 5 r = 0) (sd : Im P (0 < rF s k 7 ∧ (0 ≤ b ∧ b ≤ 9000) ∧ (-1 ≤ d ∧ d ≤ 21) ∧ rF s k 12 ≤ rF t k 12 ∧ (x2 = 0) ∧ (True))) (hC : rF t k 38 = rF s k 38 := by first | assumption | omega | (simp only [rF_sT, rF_sA]; omega)): ∃ g', Im P (GS t k g' ∧ GK g g' (rF s k 7) (rF t k 7) 0 ∧ OP t k g' r 57 d b (-1) b 0 ∧ g' 6 r = 0) := by
  obtain ⟨g', X⟩ := ENo_57 b d hk (fun hp => (G hp).1) R hr hN h0 h1 h2 h5 sd
  exact ⟨g', fun hp => ⟨⟨(X hp).1, GQ.en hk (G hp).2 (R hp) hN hC (fun j m hm _ _ _ => (X hp).2.1.2.1 j m hm (Or.inr (Or.inr rfl))) (by have := (X hp).2.2.1.2.2.2.2.1; rw [hr] at this; exact this)⟩, (X hp).2⟩⟩
theorem EV_57 {P : Prop} {s t : rS} {k S : Nat} {g : Nat → Int → Int} {r v x3 n0 l h d' : Int} (b d : Int) (hk : rgk k) (G : Im P (GS s k g)) (V : Im P (NR s k g S v n0 l h d')) (hso : ∀ q, so S q → so 16 q) (R : Im P (RG s t k 0)) (hr : r = rF s k 7) (hN : rF t k 7 = rF s k 7 + 1) (h0 : tr t k 0 r = 57) (h1 : tr t k 1 r = v) (h2 : tr t k 2 r = x3) (h5 : tr t k 5 r = 0) (sd : Im P (0 < rF s k 7 ∧ (0 ≤ b ∧ b ≤ 9000) ∧ (-1 ≤ d ∧ d ≤ 21) ∧ rF s k 12 ≤ rF t k 12 ∧ (True) ∧ (b ≤ l ∧ 0 ≤ l) ∧ d + 1 ≤ d')) (hC : rF t k 38 = rF s k 38 := by first | assumption | omega | (simp only [rF_sT, rF_sA]; omega)): ∃ g', Im P (GS t k g' ∧ KV g g' (rF s k 7) (rF t k 7) v ∧ OP t k g' r 57 d b h h 0 ∧ LI t k g' r 1 57 v ∧ (g 2 v ≤ 9000 ∧ g 3 v = 0) ∧ g' 6 r = 0) := by
  obtain ⟨g', X⟩ := EVo_57 b d hk (fun hp => (G hp).1) V hso R hr hN h0 h1 h2 h5 sd
  exact ⟨g', fun hp => ⟨⟨(X hp).1, GQ.en hk (G hp).2 (R hp) hN hC (fun j m hm j3 j5 j8 => by
    by_cases e : m = v
    · subst e; exact (X hp).2.1 j j3 j5 j8
    · exact (X hp).2.2.1.2.2.1 j m hm e) (by have := (X hp).2.2.2.1.2.2.2.2.1; rw [hr] at this; exact this)⟩, (X hp).2.2⟩⟩
theorem EC_57 {P : Prop} {s : rS} {k : Nat} {g : Nat → Int → Int} {it d lo x y e : Int} (b : Int) (G : Im P (GS s k g)) (O : Im P (OP s k g it 57 d lo x y e)) (sd : Im P (x ≤ b ∧ y ≤ b ∧ b ≤ 9000)) : ∃ g', Im P (GS s k g' ∧ NR s k g' 16 it it lo b d ∧ KC g g' it) := by
  obtain ⟨g', X⟩ := ECo_57 b (fun hp => (G hp).1) O sd
  exact ⟨g', fun hp => ⟨⟨(X hp).1, GQ.kc (G hp).2 (X hp).2.2 (fun _ h => absurd (h.symm.trans (O hp).2.2.1) (by decide))⟩, (X hp).2⟩⟩
theorem EN_58 {P : Prop} {s t : rS} {k : Nat} {g : Nat → Int → Int} {r x2 x3 : Int} (b d : Int) (hk : rgk k) (G : Im P (GS s k g)) (R : Im P (RG s t k 0)) (hr : r = rF s k 7) (hN : rF t k 7 = rF s k 7 + 1) (h0 : tr t k 0 r = 58) (h1 : tr t k 1 r = x2) (h2 : tr t k 2 r = x3) (h5 : tr t k 5 r = 0) (sd : Im P (0 < rF s k 7 ∧ (0 ≤ b ∧ b ≤ 9000) ∧ (-1 ≤ d ∧ d ≤ 21) ∧ rF s k 12 ≤ rF t k 12 ∧ (x2 = 0) ∧ (True))) (hC : rF t k 38 = rF s k 38 := by first | assumption | omega | (simp only [rF_sT, rF_sA]; omega)): ∃ g', Im P (GS t k g' ∧ GK g g' (rF s k 7) (rF t k 7) 0 ∧ OP t k g' r 58 d b (-1) b 0 ∧ g' 6 r = 0) := by
  obtain ⟨g', X⟩ := ENo_58 b d hk (fun hp => (G hp).1) R hr hN h0 h1 h2 h5 sd
  exact ⟨g', fun hp => ⟨⟨(X hp).1, GQ.en hk (G hp).2 (R hp) hN hC (fun j m hm _ _ _ => (X hp).2.1.2.1 j m hm (Or.inr (Or.inr rfl))) (by have := (X hp).2.2.1.2.2.2.2.1; rw [hr] at this; exact this)⟩, (X hp).2⟩⟩
theorem EV_58 {P : Prop} {s t : rS} {k S : Nat} {g : Nat → Int → Int} {r v x3 n0 l h d' : Int} (b d : Int) (hk : rgk k) (G : Im P (GS s k g)) (V : Im P (NR s k g S v n0 l h d')) (hso : ∀ q, so S q → so 1 q) (R : Im P (RG s t k 0)) (hr : r = rF s k 7) (hN : rF t k 7 = rF s k 7 + 1) (h0 : tr t k 0 r = 58) (h1 : tr t k 1 r = v) (h2 : tr t k 2 r = x3) (h5 : tr t k 5 r = 0) (sd : Im P (0 < rF s k 7 ∧ (0 ≤ b ∧ b ≤ 9000) ∧ (-1 ≤ d ∧ d ≤ 21) ∧ rF s k 12 ≤ rF t k 12 ∧ (True) ∧ (b ≤ l ∧ 0 ≤ l) ∧ d + (-100) ≤ d')) (hC : rF t k 38 = rF s k 38 := by first | assumption | omega | (simp only [rF_sT, rF_sA]; omega)): ∃ g', Im P (GS t k g' ∧ KV g g' (rF s k 7) (rF t k 7) v ∧ OP t k g' r 58 d b h h 0 ∧ LI t k g' r 1 58 v ∧ (g 2 v ≤ 9000 ∧ g 3 v = 0) ∧ g' 6 r = 0) := by
  obtain ⟨g', X⟩ := EVo_58 b d hk (fun hp => (G hp).1) V hso R hr hN h0 h1 h2 h5 sd
  exact ⟨g', fun hp => ⟨⟨(X hp).1, GQ.en hk (G hp).2 (R hp) hN hC (fun j m hm j3 j5 j8 => by
    by_cases e : m = v
    · subst e; exact (X hp).2.1 j j3 j5 j8
    · exact (X hp).2.2.1.2.2.1 j m hm e) (by have := (X hp).2.2.2.1.2.2.2.2.1; rw [hr] at this; exact this)⟩, (X hp).2.2⟩⟩
theorem EC_58 {P : Prop} {s : rS} {k : Nat} {g : Nat → Int → Int} {it d lo x y e : Int} (b : Int) (G : Im P (GS s k g)) (O : Im P (OP s k g it 58 d lo x y e)) (sd : Im P (x ≤ b ∧ y ≤ b ∧ b ≤ 9000)) : ∃ g', Im P (GS s k g' ∧ NR s k g' 16 it it lo b d ∧ KC g g' it) := by
  obtain ⟨g', X⟩ := ECo_58 b (fun hp => (G hp).1) O sd
  exact ⟨g', fun hp => ⟨⟨(X hp).1, GQ.kc (G hp).2 (X hp).2.2 (fun _ h => absurd (h.symm.trans (O hp).2.2.1) (by decide))⟩, (X hp).2⟩⟩
theorem EN_59 {P : Prop} {s t : rS} {k : Nat} {g : Nat → Int → Int} {r x2 x3 : Int} (b d : Int) (hk : rgk k) (G : Im P (GS s k g)) (R : Im P (RG s t k 0)) (hr : r = rF s k 7) (hN : rF t k 7 = rF s k 7 + 1) (h0 : tr t k 0 r = 59) (h1 : tr t k 1 r = x2) (h2 : tr t k 2 r = x3) (h5 : tr t k 5 r = 0) (sd : Im P (0 < rF s k 7 ∧ (0 ≤ b ∧ b ≤ 9000) ∧ (-1 ≤ d ∧ d ≤ 21) ∧ rF s k 12 ≤ rF t k 12 ∧ (x2 = 0) ∧ (True))) (hC : rF t k 38 = rF s k 38 := by first | assumption | omega | (simp only [rF_sT, rF_sA]; omega)): ∃ g', Im P (GS t k g' ∧ GK g g' (rF s k 7) (rF t k 7) 0 ∧ OP t k g' r 59 d b (-1) b 0 ∧ g' 6 r = 0) := by
  obtain ⟨g', X⟩ := ENo_59 b d hk (fun hp => (G hp).1) R hr hN h0 h1 h2 h5 sd
  exact ⟨g', fun hp => ⟨⟨(X hp).1, GQ.en hk (G hp).2 (R hp) hN hC (fun j m hm _ _ _ => (X hp).2.1.2.1 j m hm (Or.inr (Or.inr rfl))) (by have := (X hp).2.2.1.2.2.2.2.1; rw [hr] at this; exact this)⟩, (X hp).2⟩⟩
theorem EV_59 {P : Prop} {s t : rS} {k S : Nat} {g : Nat → Int → Int} {r v x3 n0 l h d' : Int} (b d : Int) (hk : rgk k) (G : Im P (GS s k g)) (V : Im P (NR s k g S v n0 l h d')) (hso : ∀ q, so S q → so 14 q) (R : Im P (RG s t k 0)) (hr : r = rF s k 7) (hN : rF t k 7 = rF s k 7 + 1) (h0 : tr t k 0 r = 59) (h1 : tr t k 1 r = v) (h2 : tr t k 2 r = x3) (h5 : tr t k 5 r = 0) (sd : Im P (0 < rF s k 7 ∧ (0 ≤ b ∧ b ≤ 9000) ∧ (-1 ≤ d ∧ d ≤ 21) ∧ rF s k 12 ≤ rF t k 12 ∧ (True) ∧ (b ≤ l ∧ 0 ≤ l) ∧ d + 1 ≤ d')) (hC : rF t k 38 = rF s k 38 := by first | assumption | omega | (simp only [rF_sT, rF_sA]; omega)): ∃ g', Im P (GS t k g' ∧ KV g g' (rF s k 7) (rF t k 7) v ∧ OP t k g' r 59 d b h h 0 ∧ LI t k g' r 1 59 v ∧ (g 2 v ≤ 9000 ∧ g 3 v = 0) ∧ g' 6 r = 0) := by
  obtain ⟨g', X⟩ := EVo_59 b d hk (fun hp => (G hp).1) V hso R hr hN h0 h1 h2 h5 sd
  exact ⟨g', fun hp => ⟨⟨(X hp).1, GQ.en hk (G hp).2 (R hp) hN hC (fun j m hm j3 j5 j8 => by
    by_cases e : m = v
    · subst e; exact (X hp).2.1 j j3 j5 j8
    · exact (X hp).2.2.1.2.2.1 j m hm e) (by have := (X hp).2.2.2.1.2.2.2.2.1; rw [hr] at this; exact this)⟩, (X hp).2.2⟩⟩
theorem EC_59 {P : Prop} {s : rS} {k : Nat} {g : Nat → Int → Int} {it d lo x y e : Int} (b : Int) (G : Im P (GS s k g)) (O : Im P (OP s k g it 59 d lo x y e)) (sd : Im P (x ≤ b ∧ y ≤ b ∧ b ≤ 9000)) : ∃ g', Im P (GS s k g' ∧ NR s k g' 16 it it lo b d ∧ KC g g' it) := by
  obtain ⟨g', X⟩ := ECo_59 b (fun hp => (G hp).1) O sd
  exact ⟨g', fun hp => ⟨⟨(X hp).1, GQ.kc (G hp).2 (X hp).2.2 (fun _ h => absurd (h.symm.trans (O hp).2.2.1) (by decide))⟩, (X hp).2⟩⟩
theorem EN_60 {P : Prop} {s t : rS} {k : Nat} {g : Nat → Int → Int} {r x2 x3 : Int} (b d : Int) (hk : rgk k) (G : Im P (GS s k g)) (R : Im P (RG s t k 0)) (hr : r = rF s k 7) (hN : rF t k 7 = rF s k 7 + 1) (h0 : tr t k 0 r = 59) (h1 : tr t k 1 r = x2) (h2 : tr t k 2 r = x3) (h5 : tr t k 5 r = 0) (sd : Im P (0 < rF s k 7 ∧ (0 ≤ b ∧ b ≤ 9000) ∧ (-1 ≤ d ∧ d ≤ 21) ∧ rF s k 12 ≤ rF t k 12 ∧ (x2 = 0) ∧ (True))) (hC : rF t k 38 = rF s k 38 := by first | assumption | omega | (simp only [rF_sT, rF_sA]; omega)): ∃ g', Im P (GS t k g' ∧ GK g g' (rF s k 7) (rF t k 7) 0 ∧ OP t k g' r 60 d b (-1) b 0 ∧ g' 6 r = 0) := by
  obtain ⟨g', X⟩ := ENo_60 b d hk (fun hp => (G hp).1) R hr hN h0 h1 h2 h5 sd
  exact ⟨g', fun hp => ⟨⟨(X hp).1, GQ.en hk (G hp).2 (R hp) hN hC (fun j m hm _ _ _ => (X hp).2.1.2.1 j m hm (Or.inr (Or.inr rfl))) (by have := (X hp).2.2.1.2.2.2.2.1; rw [hr] at this; exact this)⟩, (X hp).2⟩⟩
theorem EV_60 {P : Prop} {s t : rS} {k S : Nat} {g : Nat → Int → Int} {r v x3 n0 l h d' : Int} (b d : Int) (hk : rgk k) (G : Im P (GS s k g)) (V : Im P (NR s k g S v n0 l h d')) (hso : ∀ q, so S q → so 1 q) (R : Im P (RG s t k 0)) (hr : r = rF s k 7) (hN : rF t k 7 = rF s k 7 + 1) (h0 : tr t k 0 r = 59) (h1 : tr t k 1 r = v) (h2 : tr t k 2 r = x3) (h5 : tr t k 5 r = 0) (sd : Im P (0 < rF s k 7 ∧ (0 ≤ b ∧ b ≤ 9000) ∧ (-1 ≤ d ∧ d ≤ 21) ∧ rF s k 12 ≤ rF t k 12 ∧ (True) ∧ (b ≤ l ∧ 0 ≤ l) ∧ d + 1 ≤ d')) (hC : rF t k 38 = rF s k 38 := by first | assumption | omega | (simp only [rF_sT, rF_sA]; omega)): ∃ g', Im P (GS t k g' ∧ KV g g' (rF s k 7) (rF t k 7) v ∧ OP t k g' r 60 d b h h 0 ∧ LI t k g' r 1 60 v ∧ (g 2 v ≤ 9000 ∧ g 3 v = 0) ∧ g' 6 r = 0) := by
  obtain ⟨g', X⟩ := EVo_60 b d hk (fun hp => (G hp).1) V hso R hr hN h0 h1 h2 h5 sd
  exact ⟨g', fun hp => ⟨⟨(X hp).1, GQ.en hk (G hp).2 (R hp) hN hC (fun j m hm j3 j5 j8 => by
    by_cases e : m = v
    · subst e; exact (X hp).2.1 j j3 j5 j8
    · exact (X hp).2.2.1.2.2.1 j m hm e) (by have := (X hp).2.2.2.1.2.2.2.2.1; rw [hr] at this; exact this)⟩, (X hp).2.2⟩⟩
theorem EC_60 {P : Prop} {s : rS} {k : Nat} {g : Nat → Int → Int} {it d lo x y e : Int} (b : Int) (G : Im P (GS s k g)) (O : Im P (OP s k g it 60 d lo x y e)) (sd : Im P (x ≤ b ∧ y ≤ b ∧ b ≤ 9000)) : ∃ g', Im P (GS s k g' ∧ NR s k g' 7 it it lo b d ∧ KC g g' it) := by
  obtain ⟨g', X⟩ := ECo_60 b (fun hp => (G hp).1) O sd
  exact ⟨g', fun hp => ⟨⟨(X hp).1, GQ.kc (G hp).2 (X hp).2.2 (fun _ h => absurd (h.symm.trans (O hp).2.2.1) (by decide))⟩, (X hp).2⟩⟩
theorem EN_9 {P : Prop} {s t : rS} {k : Nat} {g : Nat → Int → Int} {r x2 x3 : Int} (b d : Int) (hk : rgk k) (G : Im P (GS s k g)) (R : Im P (RG s t k 0)) (hr : r = rF s k 7) (hN : rF t k 7 = rF s k 7 + 1) (h0 : tr t k 0 r = 9) (h1 : tr t k 1 r = x2) (h2 : tr t k 2 r = x3) (h5 : tr t k 5 r = 0) (sd : Im P (0 < rF s k 7 ∧ (0 ≤ b ∧ b ≤ 9000) ∧ (-1 ≤ d ∧ d ≤ 21) ∧ rF s k 12 ≤ rF t k 12 ∧ (x2 = 0) ∧ (True))) (hC : rF t k 38 = rF s k 38 := by first | assumption | omega | (simp only [rF_sT, rF_sA]; omega)): ∃ g', Im P (GS t k g' ∧ GK g g' (rF s k 7) (rF t k 7) 0 ∧ OP t k g' r 9 d b (-1) b 0 ∧ g' 6 r = 0) := by
  obtain ⟨g', X⟩ := ENo_9 b d hk (fun hp => (G hp).1) R hr hN h0 h1 h2 h5 sd
  exact ⟨g', fun hp => ⟨⟨(X hp).1, GQ.en hk (G hp).2 (R hp) hN hC (fun j m hm _ _ _ => (X hp).2.1.2.1 j m hm (Or.inr (Or.inr rfl))) (by have := (X hp).2.2.1.2.2.2.2.1; rw [hr] at this; exact this)⟩, (X hp).2⟩⟩
theorem EC_9 {P : Prop} {s : rS} {k : Nat} {g : Nat → Int → Int} {it d lo x y e : Int} (b : Int) (G : Im P (GS s k g)) (O : Im P (OP s k g it 9 d lo x y e)) (sd : Im P (x ≤ b ∧ y ≤ b ∧ b ≤ 9000)) : ∃ g', Im P (GS s k g' ∧ NR s k g' 11 it it lo b d ∧ KC g g' it) := by
  obtain ⟨g', X⟩ := ECo_9 b (fun hp => (G hp).1) O sd
  exact ⟨g', fun hp => ⟨⟨(X hp).1, GQ.kc (G hp).2 (X hp).2.2 (fun _ h => absurd (h.symm.trans (O hp).2.2.1) (by decide))⟩, (X hp).2⟩⟩
theorem EN_8 {P : Prop} {s t : rS} {k : Nat} {g : Nat → Int → Int} {r x2 x3 : Int} (b d : Int) (hk : rgk k) (G : Im P (GS s k g)) (R : Im P (RG s t k 0)) (hr : r = rF s k 7) (hN : rF t k 7 = rF s k 7 + 1) (h0 : tr t k 0 r = 8) (h1 : tr t k 1 r = x2) (h2 : tr t k 2 r = x3) (h5 : tr t k 5 r = 0) (sd : Im P (0 < rF s k 7 ∧ (0 ≤ b ∧ b ≤ 9000) ∧ (-1 ≤ d ∧ d ≤ 21) ∧ rF s k 12 ≤ rF t k 12 ∧ (x2 = 0 ∧ x3 = 0) ∧ (True))) (hC : rF t k 38 = rF s k 38 := by first | assumption | omega | (simp only [rF_sT, rF_sA]; omega)): ∃ g', Im P (GS t k g' ∧ GK g g' (rF s k 7) (rF t k 7) 0 ∧ OP t k g' r 8 d b (-1) b 0 ∧ g' 6 r = 0) := by
  obtain ⟨g', X⟩ := ENo_8 b d hk (fun hp => (G hp).1) R hr hN h0 h1 h2 h5 sd
  exact ⟨g', fun hp => ⟨⟨(X hp).1, GQ.en hk (G hp).2 (R hp) hN hC (fun j m hm _ _ _ => (X hp).2.1.2.1 j m hm (Or.inr (Or.inr rfl))) (by have := (X hp).2.2.1.2.2.2.2.1; rw [hr] at this; exact this)⟩, (X hp).2⟩⟩
theorem EV_8 {P : Prop} {s t : rS} {k S : Nat} {g : Nat → Int → Int} {r v x3 n0 l h d' : Int} (b d : Int) (hk : rgk k) (G : Im P (GS s k g)) (V : Im P (NR s k g S v n0 l h d')) (hso : ∀ q, so S q → so 14 q) (R : Im P (RG s t k 0)) (hr : r = rF s k 7) (hN : rF t k 7 = rF s k 7 + 1) (h0 : tr t k 0 r = 8) (h1 : tr t k 1 r = v) (h2 : tr t k 2 r = x3) (h5 : tr t k 5 r = 0) (sd : Im P (0 < rF s k 7 ∧ (0 ≤ b ∧ b ≤ 9000) ∧ (-1 ≤ d ∧ d ≤ 21) ∧ rF s k 12 ≤ rF t k 12 ∧ (x3 = 0) ∧ (b ≤ l ∧ 0 ≤ l) ∧ d + (-100) ≤ d')) (hC : rF t k 38 = rF s k 38 := by first | assumption | omega | (simp only [rF_sT, rF_sA]; omega)): ∃ g', Im P (GS t k g' ∧ KV g g' (rF s k 7) (rF t k 7) v ∧ OP t k g' r 8 d b h h 0 ∧ LI t k g' r 1 8 v ∧ (g 2 v ≤ 9000 ∧ g 3 v = 0) ∧ g' 6 r = 0) := by
  obtain ⟨g', X⟩ := EVo_8 b d hk (fun hp => (G hp).1) V hso R hr hN h0 h1 h2 h5 sd
  exact ⟨g', fun hp => ⟨⟨(X hp).1, GQ.en hk (G hp).2 (R hp) hN hC (fun j m hm j3 j5 j8 => by
    by_cases e : m = v
    · subst e; exact (X hp).2.1 j j3 j5 j8
    · exact (X hp).2.2.1.2.2.1 j m hm e) (by have := (X hp).2.2.2.1.2.2.2.2.1; rw [hr] at this; exact this)⟩, (X hp).2.2⟩⟩
theorem EC_8 {P : Prop} {s : rS} {k : Nat} {g : Nat → Int → Int} {it d lo x y e : Int} (b : Int) (G : Im P (GS s k g)) (O : Im P (OP s k g it 8 d lo x y e)) (sd : Im P (x ≤ b ∧ y ≤ b ∧ b ≤ 9000)) : ∃ g', Im P (GS s k g' ∧ NR s k g' 13 it it lo b d ∧ KC g g' it) := by
  obtain ⟨g', X⟩ := ECo_8 b (fun hp => (G hp).1) O sd
  exact ⟨g', fun hp => ⟨⟨(X hp).1, GQ.kc (G hp).2 (X hp).2.2 (fun _ h => absurd (h.symm.trans (O hp).2.2.1) (by decide))⟩, (X hp).2⟩⟩
theorem EN_4 {P : Prop} {s t : rS} {k : Nat} {g : Nat → Int → Int} {r x2 x3 : Int} (b d : Int) (hk : rgk k) (G : Im P (GS s k g)) (R : Im P (RG s t k 0)) (hr : r = rF s k 7) (hN : rF t k 7 = rF s k 7 + 1) (h0 : tr t k 0 r = 4) (h1 : tr t k 1 r = x2) (h2 : tr t k 2 r = x3) (h4 : tr t k 4 r = 0) (h5 : tr t k 5 r = 0) (sd : Im P (0 < rF s k 7 ∧ (0 ≤ b ∧ b ≤ 9000) ∧ (-1 ≤ d ∧ d ≤ 21) ∧ rF s k 12 ≤ rF t k 12 ∧ (x2 = 0 ∧ x3 = 0) ∧ (True))) (hC : rF t k 38 = rF s k 38 := by first | assumption | omega | (simp only [rF_sT, rF_sA]; omega)): ∃ g', Im P (GS t k g' ∧ GK g g' (rF s k 7) (rF t k 7) 0 ∧ OP t k g' r 4 d b (-1) b 0 ∧ g' 6 r = 0) := by
  obtain ⟨g', X⟩ := ENo_4 b d hk (fun hp => (G hp).1) R hr hN h0 h1 h2 h4 h5 sd
  exact ⟨g', fun hp => ⟨⟨(X hp).1, GQ.en hk (G hp).2 (R hp) hN hC (fun j m hm _ _ _ => (X hp).2.1.2.1 j m hm (Or.inr (Or.inr rfl))) (by have := (X hp).2.2.1.2.2.2.2.1; rw [hr] at this; exact this)⟩, (X hp).2⟩⟩
theorem EC_4 {P : Prop} {s : rS} {k : Nat} {g : Nat → Int → Int} {it d lo x y e : Int} (b : Int) (G : Im P (GS s k g)) (O : Im P (OP s k g it 4 d lo x y e)) (sd : Im P (x ≤ b ∧ y ≤ b ∧ b ≤ 9000)) : ∃ g', Im P (GS s k g' ∧ NR s k g' 12 it it lo b d ∧ KC g g' it) := by
  obtain ⟨g', X⟩ := ECo_4 b (fun hp => (G hp).1) O sd
  exact ⟨g', fun hp => ⟨⟨(X hp).1, GQ.kc (G hp).2 (X hp).2.2 (fun _ h => absurd (h.symm.trans (O hp).2.2.1) (by decide))⟩, (X hp).2⟩⟩
theorem EN_5 {P : Prop} {s t : rS} {k : Nat} {g : Nat → Int → Int} {r x2 x3 : Int} (b d : Int) (hk : rgk k) (G : Im P (GS s k g)) (R : Im P (RG s t k 0)) (hr : r = rF s k 7) (hN : rF t k 7 = rF s k 7 + 1) (h0 : tr t k 0 r = 5) (h1 : tr t k 1 r = x2) (h2 : tr t k 2 r = x3) (h5 : tr t k 5 r = 0) (sd : Im P (0 < rF s k 7 ∧ (0 ≤ b ∧ b ≤ 9000) ∧ (-1 ≤ d ∧ d ≤ 21) ∧ rF s k 12 ≤ rF t k 12 ∧ (x2 = 0) ∧ (True))) (hC : rF t k 38 = rF s k 38 := by first | assumption | omega | (simp only [rF_sT, rF_sA]; omega)): ∃ g', Im P (GS t k g' ∧ GK g g' (rF s k 7) (rF t k 7) 0 ∧ OP t k g' r 5 d b (-1) b 0 ∧ g' 6 r = 0) := by
  obtain ⟨g', X⟩ := ENo_5 b d hk (fun hp => (G hp).1) R hr hN h0 h1 h2 h5 sd
  exact ⟨g', fun hp => ⟨⟨(X hp).1, GQ.en hk (G hp).2 (R hp) hN hC (fun j m hm _ _ _ => (X hp).2.1.2.1 j m hm (Or.inr (Or.inr rfl))) (by have := (X hp).2.2.1.2.2.2.2.1; rw [hr] at this; exact this)⟩, (X hp).2⟩⟩
theorem EC_5 {P : Prop} {s : rS} {k : Nat} {g : Nat → Int → Int} {it d lo x y e : Int} (b : Int) (G : Im P (GS s k g)) (O : Im P (OP s k g it 5 d lo x y e)) (sd : Im P (x ≤ b ∧ y ≤ b ∧ b ≤ 9000)) : ∃ g', Im P (GS s k g' ∧ NR s k g' 12 it it lo b d ∧ KC g g' it) := by
  obtain ⟨g', X⟩ := ECo_5 b (fun hp => (G hp).1) O sd
  exact ⟨g', fun hp => ⟨⟨(X hp).1, GQ.kc (G hp).2 (X hp).2.2 (fun _ h => absurd (h.symm.trans (O hp).2.2.1) (by decide))⟩, (X hp).2⟩⟩
theorem EN_6 {P : Prop} {s t : rS} {k : Nat} {g : Nat → Int → Int} {r x2 x3 : Int} (b d : Int) (hk : rgk k) (G : Im P (GS s k g)) (R : Im P (RG s t k 0)) (hr : r = rF s k 7) (hN : rF t k 7 = rF s k 7 + 1) (h0 : tr t k 0 r = 6) (h1 : tr t k 1 r = x2) (h2 : tr t k 2 r = x3) (h3 : tr t k 3 r = 0) (h4 : tr t k 4 r = 0) (h5 : tr t k 5 r = 0) (sd : Im P (0 < rF s k 7 ∧ (0 ≤ b ∧ b ≤ 9000) ∧ (-1 ≤ d ∧ d ≤ 21) ∧ rF s k 12 ≤ rF t k 12 ∧ (x3 = 0) ∧ (True))) (hC : rF t k 38 = rF s k 38 := by first | assumption | omega | (simp only [rF_sT, rF_sA]; omega)): ∃ g', Im P (GS t k g' ∧ GK g g' (rF s k 7) (rF t k 7) 0 ∧ OP t k g' r 6 d b (-1) b 0 ∧ g' 6 r = 0) := by
  obtain ⟨g', X⟩ := ENo_6 b d hk (fun hp => (G hp).1) R hr hN h0 h1 h2 h3 h4 h5 sd
  exact ⟨g', fun hp => ⟨⟨(X hp).1, GQ.en hk (G hp).2 (R hp) hN hC (fun j m hm _ _ _ => (X hp).2.1.2.1 j m hm (Or.inr (Or.inr rfl))) (by have := (X hp).2.2.1.2.2.2.2.1; rw [hr] at this; exact this)⟩, (X hp).2⟩⟩
theorem EC_6 {P : Prop} {s : rS} {k : Nat} {g : Nat → Int → Int} {it d lo x y e : Int} (b : Int) (G : Im P (GS s k g)) (O : Im P (OP s k g it 6 d lo x y e)) (sd : Im P (x ≤ b ∧ y ≤ b ∧ b ≤ 9000)) : ∃ g', Im P (GS s k g' ∧ NR s k g' 12 it it lo b d ∧ KC g g' it) := by
  obtain ⟨g', X⟩ := ECo_6 b (fun hp => (G hp).1) O sd
  exact ⟨g', fun hp => ⟨⟨(X hp).1, GQ.kc (G hp).2 (X hp).2.2 (fun _ h => absurd (h.symm.trans (O hp).2.2.1) (by decide))⟩, (X hp).2⟩⟩
theorem EN_7 {P : Prop} {s t : rS} {k : Nat} {g : Nat → Int → Int} {r x2 x3 : Int} (b d : Int) (hk : rgk k) (G : Im P (GS s k g)) (R : Im P (RG s t k 0)) (hr : r = rF s k 7) (hN : rF t k 7 = rF s k 7 + 1) (h0 : tr t k 0 r = 7) (h1 : tr t k 1 r = x2) (h2 : tr t k 2 r = x3) (h3 : tr t k 3 r = 0) (h4 : tr t k 4 r = 0) (h5 : tr t k 5 r = 0) (sd : Im P (0 < rF s k 7 ∧ (0 ≤ b ∧ b ≤ 9000) ∧ (-1 ≤ d ∧ d ≤ 21) ∧ rF s k 12 ≤ rF t k 12 ∧ (True) ∧ (True))) (hC : rF t k 38 = rF s k 38 := by first | assumption | omega | (simp only [rF_sT, rF_sA]; omega)): ∃ g', Im P (GS t k g' ∧ GK g g' (rF s k 7) (rF t k 7) 0 ∧ OP t k g' r 7 d b (-1) b 0 ∧ g' 6 r = 0) := by
  obtain ⟨g', X⟩ := ENo_7 b d hk (fun hp => (G hp).1) R hr hN h0 h1 h2 h3 h4 h5 sd
  exact ⟨g', fun hp => ⟨⟨(X hp).1, GQ.en hk (G hp).2 (R hp) hN hC (fun j m hm _ _ _ => (X hp).2.1.2.1 j m hm (Or.inr (Or.inr rfl))) (by have := (X hp).2.2.1.2.2.2.2.1; rw [hr] at this; exact this)⟩, (X hp).2⟩⟩
theorem EC_7 {P : Prop} {s : rS} {k : Nat} {g : Nat → Int → Int} {it d lo x y e : Int} (b : Int) (G : Im P (GS s k g)) (O : Im P (OP s k g it 7 d lo x y e)) (sd : Im P (x ≤ b ∧ y ≤ b ∧ b ≤ 9000)) : ∃ g', Im P (GS s k g' ∧ NR s k g' 12 it it lo b d ∧ KC g g' it) := by
  obtain ⟨g', X⟩ := ECo_7 b (fun hp => (G hp).1) O sd
  exact ⟨g', fun hp => ⟨⟨(X hp).1, GQ.kc (G hp).2 (X hp).2.2 (fun _ h => absurd (h.symm.trans (O hp).2.2.1) (by decide))⟩, (X hp).2⟩⟩
theorem EN_1 {P : Prop} {s t : rS} {k : Nat} {g : Nat → Int → Int} {r x2 x3 : Int} (b d : Int) (hk : rgk k) (G : Im P (GS s k g)) (R : Im P (RG s t k 0)) (hr : r = rF s k 7) (hN : rF t k 7 = rF s k 7 + 1) (h0 : tr t k 0 r = 1) (h1 : tr t k 1 r = x2) (h2 : tr t k 2 r = x3) (h5 : tr t k 5 r = 0) (sd : Im P (0 < rF s k 7 ∧ (0 ≤ b ∧ b ≤ 9000) ∧ (-1 ≤ d ∧ d ≤ 21) ∧ rF s k 12 ≤ rF t k 12 ∧ (True) ∧ (True))) (hC : rF t k 38 = rF s k 38 := by first | assumption | omega | (simp only [rF_sT, rF_sA]; omega)): ∃ g', Im P (GS t k g' ∧ GK g g' (rF s k 7) (rF t k 7) 0 ∧ OP t k g' r 1 d b (-1) b 0 ∧ g' 6 r = 0) := by
  obtain ⟨g', X⟩ := ENo_1 b d hk (fun hp => (G hp).1) R hr hN h0 h1 h2 h5 sd
  exact ⟨g', fun hp => ⟨⟨(X hp).1, GQ.en hk (G hp).2 (R hp) hN hC (fun j m hm _ _ _ => (X hp).2.1.2.1 j m hm (Or.inr (Or.inr rfl))) (by have := (X hp).2.2.1.2.2.2.2.1; rw [hr] at this; exact this)⟩, (X hp).2⟩⟩
theorem EC_1 {P : Prop} {s : rS} {k : Nat} {g : Nat → Int → Int} {it d lo x y e : Int} (b : Int) (G : Im P (GS s k g)) (O : Im P (OP s k g it 1 d lo x y e)) (sd : Im P (x ≤ b ∧ y ≤ b ∧ b ≤ 9000)) : ∃ g', Im P (GS s k g' ∧ NR s k g' 12 it it lo b d ∧ KC g g' it) := by
  obtain ⟨g', X⟩ := ECo_1 b (fun hp => (G hp).1) O sd
  exact ⟨g', fun hp => ⟨⟨(X hp).1, GQ.kc (G hp).2 (X hp).2.2 (fun _ h => absurd (h.symm.trans (O hp).2.2.1) (by decide))⟩, (X hp).2⟩⟩
theorem EN_2 {P : Prop} {s t : rS} {k : Nat} {g : Nat → Int → Int} {r x2 x3 : Int} (b d : Int) (hk : rgk k) (G : Im P (GS s k g)) (R : Im P (RG s t k 0)) (hr : r = rF s k 7) (hN : rF t k 7 = rF s k 7 + 1) (h0 : tr t k 0 r = 2) (h1 : tr t k 1 r = x2) (h2 : tr t k 2 r = x3) (h5 : tr t k 5 r = 0) (sd : Im P (0 < rF s k 7 ∧ (0 ≤ b ∧ b ≤ 9000) ∧ (-1 ≤ d ∧ d ≤ 21) ∧ rF s k 12 ≤ rF t k 12 ∧ (True) ∧ (True))) (hC : rF t k 38 = rF s k 38 := by first | assumption | omega | (simp only [rF_sT, rF_sA]; omega)): ∃ g', Im P (GS t k g' ∧ GK g g' (rF s k 7) (rF t k 7) 0 ∧ OP t k g' r 2 d b (-1) b 0 ∧ g' 6 r = 0) := by
  obtain ⟨g', X⟩ := ENo_2 b d hk (fun hp => (G hp).1) R hr hN h0 h1 h2 h5 sd
  exact ⟨g', fun hp => ⟨⟨(X hp).1, GQ.en hk (G hp).2 (R hp) hN hC (fun j m hm _ _ _ => (X hp).2.1.2.1 j m hm (Or.inr (Or.inr rfl))) (by have := (X hp).2.2.1.2.2.2.2.1; rw [hr] at this; exact this)⟩, (X hp).2⟩⟩
theorem EC_2 {P : Prop} {s : rS} {k : Nat} {g : Nat → Int → Int} {it d lo x y e : Int} (b : Int) (G : Im P (GS s k g)) (O : Im P (OP s k g it 2 d lo x y e)) (sd : Im P (x ≤ b ∧ y ≤ b ∧ b ≤ 9000)) : ∃ g', Im P (GS s k g' ∧ NR s k g' 12 it it lo b d ∧ KC g g' it) := by
  obtain ⟨g', X⟩ := ECo_2 b (fun hp => (G hp).1) O sd
  exact ⟨g', fun hp => ⟨⟨(X hp).1, GQ.kc (G hp).2 (X hp).2.2 (fun _ h => absurd (h.symm.trans (O hp).2.2.1) (by decide))⟩, (X hp).2⟩⟩
theorem EN_3 {P : Prop} {s t : rS} {k : Nat} {g : Nat → Int → Int} {r x2 x3 : Int} (b d : Int) (hk : rgk k) (G : Im P (GS s k g)) (R : Im P (RG s t k 0)) (hr : r = rF s k 7) (hN : rF t k 7 = rF s k 7 + 1) (h0 : tr t k 0 r = 3) (h1 : tr t k 1 r = x2) (h2 : tr t k 2 r = x3) (h5 : tr t k 5 r = 0) (sd : Im P (0 < rF s k 7 ∧ (0 ≤ b ∧ b ≤ 9000) ∧ (-1 ≤ d ∧ d ≤ 21) ∧ rF s k 12 ≤ rF t k 12 ∧ (True) ∧ (True))) (hC : rF t k 38 = rF s k 38 := by first | assumption | omega | (simp only [rF_sT, rF_sA]; omega)): ∃ g', Im P (GS t k g' ∧ GK g g' (rF s k 7) (rF t k 7) 0 ∧ OP t k g' r 3 d b (-1) b 0 ∧ g' 6 r = 0) := by
  obtain ⟨g', X⟩ := ENo_3 b d hk (fun hp => (G hp).1) R hr hN h0 h1 h2 h5 sd
  exact ⟨g', fun hp => ⟨⟨(X hp).1, GQ.en hk (G hp).2 (R hp) hN hC (fun j m hm _ _ _ => (X hp).2.1.2.1 j m hm (Or.inr (Or.inr rfl))) (by have := (X hp).2.2.1.2.2.2.2.1; rw [hr] at this; exact this)⟩, (X hp).2⟩⟩
theorem EC_3 {P : Prop} {s : rS} {k : Nat} {g : Nat → Int → Int} {it d lo x y e : Int} (b : Int) (G : Im P (GS s k g)) (O : Im P (OP s k g it 3 d lo x y e)) (sd : Im P (x ≤ b ∧ y ≤ b ∧ b ≤ 9000)) : ∃ g', Im P (GS s k g' ∧ NR s k g' 12 it it lo b d ∧ KC g g' it) := by
  obtain ⟨g', X⟩ := ECo_3 b (fun hp => (G hp).1) O sd
  exact ⟨g', fun hp => ⟨⟨(X hp).1, GQ.kc (G hp).2 (X hp).2.2 (fun _ h => absurd (h.symm.trans (O hp).2.2.1) (by decide))⟩, (X hp).2⟩⟩
theorem EG_41 {P : Prop} {s : rS} {k : Nat} {g : Nat → Int → Int} {it n0 lo hi d : Int} (G : Im P (GS s k g)) (V : Im P (NR s k g 1 it n0 lo hi d)) (sd : Im P (lo ≤ hi)) : ∃ g', Im P (GS s k g' ∧ OP s k g' it 41 d lo hi hi 1 ∧ KC g g' it) := by
  obtain ⟨g', X⟩ := EGo_41 (fun hp => (G hp).1) V sd
  exact ⟨g', fun hp => ⟨⟨(X hp).1, GQ.kc (G hp).2 (X hp).2.2 (fun h _ => absurd h (by have := (X hp).2.1.2.2.2.2.1; omega))⟩, (X hp).2⟩⟩
theorem EH_1_41 {P : Prop} {s : rS} {k S : Nat} {g : Nat → Int → Int} {it d lo x y e v n0 l h d' : Int} (hk : rgk k) (G : Im P (GS s k g)) (O : Im P (OP s k g it 41 d lo x y e)) (V : Im P (NR s k g S v n0 l h d')) (hso : ∀ q, so S q → so 17 q) (sd : Im P (x ≤ l ∧ y ≤ l ∧ d + 0 ≤ d' ∧ x < 0)) : ∃ g', Im P (GS (sT s k 1 it v) k g' ∧ OP (sT s k 1 it v) k g' it 41 d lo h h e ∧ LI (sT s k 1 it v) k g' it 1 41 v ∧ KS g g' it v 1 41 ∧ (g 2 it = 100000 ∧ g 3 it = 0) ∧ (g 3 v = 0 ∧ g 2 v ≤ 9000)) := by
  obtain ⟨g', X⟩ := EHo_1_41 hk (fun hp => (G hp).1) O V hso sd
  exact ⟨g', fun hp => ⟨⟨(X hp).1, GQ.ks (fs := 1) hk (by decide) (G hp).2 (X hp).2.2.2.1 (O hp).2.2.2.2.1 (Or.inr rfl)⟩, (X hp).2⟩⟩
theorem EH_2_41 {P : Prop} {s : rS} {k S : Nat} {g : Nat → Int → Int} {it d lo x y e v n0 l h d' : Int} (hk : rgk k) (G : Im P (GS s k g)) (O : Im P (OP s k g it 41 d lo x y e)) (V : Im P (NR s k g S v n0 l h d')) (hso : ∀ q, so S q → so 3 q) (sd : Im P (x ≤ l ∧ y ≤ l ∧ d + 0 ≤ d' ∧ e = 0)) : ∃ g', Im P (GS (sT s k 2 it v) k g' ∧ OP (sT s k 2 it v) k g' it 41 d lo h h e ∧ LI (sT s k 2 it v) k g' it 2 41 v ∧ KS g g' it v 2 41 ∧ (g 2 it = 100000 ∧ g 3 it = 0) ∧ (g 3 v = 0 ∧ g 2 v ≤ 9000)) := by
  obtain ⟨g', X⟩ := EHo_2_41 hk (fun hp => (G hp).1) O V hso sd
  exact ⟨g', fun hp => ⟨⟨(X hp).1, GQ.ks (fs := 2) hk (by decide) (G hp).2 (X hp).2.2.2.1 (O hp).2.2.2.2.1 (Or.inr rfl)⟩, (X hp).2⟩⟩
theorem EA_2_41 {P : Prop} {s : rS} {k S : Nat} {g : Nat → Int → Int} {it d lo x y e v n0 l h d' la : Int} (hk : rgk k) (G : Im P (GS s k g)) (O : Im P (OP s k g it 41 d lo x y e)) (L : Im P (LI s k g it 2 41 la)) (V : Im P (NR s k g S v n0 l h d')) (hso : ∀ q, so S q → so 3 q) (sd : Im P (x < l ∧ y ≤ l ∧ d + 0 ≤ d' ∧ la ≠ 0 ∧ e = 0 ∧ la < v)) : ∃ g', Im P (GS (sT s k 5 la v) k g' ∧ OP (sT s k 5 la v) k g' it 41 d lo h h e ∧ LI (sT s k 5 la v) k g' it 2 41 v ∧ KS g g' it v 2 41 ∧ (g 2 it = 100000 ∧ g 3 it = 0) ∧ (g 3 v = 0 ∧ g 2 v ≤ 9000) ∧ g 3 la = it ∧ g 8 la = 2) := by
  obtain ⟨g', X⟩ := EAo_2_41 hk (fun hp => (G hp).1) O L V hso sd
  exact ⟨g', fun hp => ⟨⟨(X hp).1, GQ.ks (fs := 5) hk (by decide) (G hp).2 (X hp).2.2.2.1 (O hp).2.2.2.2.1 (Or.inl (by decide))⟩, (X hp).2⟩⟩
theorem EH_3_41 {P : Prop} {s : rS} {k S : Nat} {g : Nat → Int → Int} {it d lo x y e v n0 l h d' : Int} (hk : rgk k) (G : Im P (GS s k g)) (O : Im P (OP s k g it 41 d lo x y e)) (V : Im P (NR s k g S v n0 l h d')) (hso : ∀ q, so S q → so 4 q) (sd : Im P (x ≤ l ∧ y ≤ l ∧ d + 0 ≤ d')) : ∃ g', Im P (GS (sT s k 3 it v) k g' ∧ OP (sT s k 3 it v) k g' it 41 d lo h h 1 ∧ LI (sT s k 3 it v) k g' it 3 41 v ∧ KS g g' it v 3 41 ∧ (g 2 it = 100000 ∧ g 3 it = 0) ∧ (g 3 v = 0 ∧ g 2 v ≤ 9000)) := by
  obtain ⟨g', X⟩ := EHo_3_41 hk (fun hp => (G hp).1) O V hso sd
  exact ⟨g', fun hp => ⟨⟨(X hp).1, GQ.ks (fs := 3) hk (by decide) (G hp).2 (X hp).2.2.2.1 (O hp).2.2.2.2.1 (Or.inr rfl)⟩, (X hp).2⟩⟩
theorem EA_3_41 {P : Prop} {s : rS} {k S : Nat} {g : Nat → Int → Int} {it d lo x y e v n0 l h d' la : Int} (hk : rgk k) (G : Im P (GS s k g)) (O : Im P (OP s k g it 41 d lo x y e)) (L : Im P (LI s k g it 3 41 la)) (V : Im P (NR s k g S v n0 l h d')) (hso : ∀ q, so S q → so 4 q) (sd : Im P (x < l ∧ y ≤ l ∧ d + 0 ≤ d' ∧ la ≠ 0 ∧ la < v)) : ∃ g', Im P (GS (sT s k 5 la v) k g' ∧ OP (sT s k 5 la v) k g' it 41 d lo h h 1 ∧ LI (sT s k 5 la v) k g' it 3 41 v ∧ KS g g' it v 3 41 ∧ (g 2 it = 100000 ∧ g 3 it = 0) ∧ (g 3 v = 0 ∧ g 2 v ≤ 9000) ∧ g 3 la = it ∧ g 8 la = 3) := by
  obtain ⟨g', X⟩ := EAo_3_41 hk (fun hp => (G hp).1) O L V hso sd
  exact ⟨g', fun hp => ⟨⟨(X hp).1, GQ.ks (fs := 5) hk (by decide) (G hp).2 (X hp).2.2.2.1 (O hp).2.2.2.2.1 (Or.inl (by decide))⟩, (X hp).2⟩⟩
theorem EH_1_44 {P : Prop} {s : rS} {k S : Nat} {g : Nat → Int → Int} {it d lo x y e v n0 l h d' : Int} (hk : rgk k) (G : Im P (GS s k g)) (O : Im P (OP s k g it 44 d lo x y e)) {la : Int} (L : Im P (LI s k g it 1 44 la)) (V : Im P (NR s k g S v n0 l h d')) (hso : ∀ q, so S q → so 5 q) (sd : Im P (x ≤ l ∧ y ≤ l ∧ d + 0 ≤ d' ∧ la = 0)) : ∃ g', Im P (GS (sT s k 1 it v) k g' ∧ OP (sT s k 1 it v) k g' it 44 d lo h h e ∧ LI (sT s k 1 it v) k g' it 1 44 v ∧ KS g g' it v 1 44 ∧ (g 2 it = 100000 ∧ g 3 it = 0) ∧ (g 3 v = 0 ∧ g 2 v ≤ 9000)) := by
  obtain ⟨g', X⟩ := EHo_1_44 hk (fun hp => (G hp).1) O L V hso sd
  exact ⟨g', fun hp => ⟨⟨(X hp).1, GQ.ks (fs := 1) hk (by decide) (G hp).2 (X hp).2.2.2.1 (O hp).2.2.2.2.1 (Or.inr rfl)⟩, (X hp).2⟩⟩
theorem EA_1_44 {P : Prop} {s : rS} {k S : Nat} {g : Nat → Int → Int} {it d lo x y e v n0 l h d' la : Int} (hk : rgk k) (G : Im P (GS s k g)) (O : Im P (OP s k g it 44 d lo x y e)) (L : Im P (LI s k g it 1 44 la)) (V : Im P (NR s k g S v n0 l h d')) (hso : ∀ q, so S q → so 5 q) (sd : Im P (x < l ∧ y ≤ l ∧ d + 0 ≤ d' ∧ la ≠ 0 ∧ la < v)) : ∃ g', Im P (GS (sT s k 5 la v) k g' ∧ OP (sT s k 5 la v) k g' it 44 d lo h h e ∧ LI (sT s k 5 la v) k g' it 1 44 v ∧ KS g g' it v 1 44 ∧ (g 2 it = 100000 ∧ g 3 it = 0) ∧ (g 3 v = 0 ∧ g 2 v ≤ 9000) ∧ g 3 la = it ∧ g 8 la = 1) := by
  obtain ⟨g', X⟩ := EAo_1_44 hk (fun hp => (G hp).1) O L V hso sd
  exact ⟨g', fun hp => ⟨⟨(X hp).1, GQ.ks (fs := 5) hk (by decide) (G hp).2 (X hp).2.2.2.1 (O hp).2.2.2.2.1 (Or.inl (by decide))⟩, (X hp).2⟩⟩
theorem EH_2_36 {P : Prop} {s : rS} {k S : Nat} {g : Nat → Int → Int} {it d lo x y e v n0 l h d' : Int} (hk : rgk k) (G : Im P (GS s k g)) (O : Im P (OP s k g it 36 d lo x y e)) {la : Int} (L : Im P (LI s k g it 2 36 la)) (V : Im P (NR s k g S v n0 l h d')) (hso : ∀ q, so S q → so 6 q) (sd : Im P (x ≤ l ∧ y ≤ l ∧ d + 0 ≤ d' ∧ la = 0)) : ∃ g', Im P (GS (sT s k 2 it v) k g' ∧ OP (sT s k 2 it v) k g' it 36 d lo h h e ∧ LI (sT s k 2 it v) k g' it 2 36 v ∧ KS g g' it v 2 36 ∧ (g 2 it = 100000 ∧ g 3 it = 0) ∧ (g 3 v = 0 ∧ g 2 v ≤ 9000)) := by
  obtain ⟨g', X⟩ := EHo_2_36 hk (fun hp => (G hp).1) O L V hso sd
  exact ⟨g', fun hp => ⟨⟨(X hp).1, GQ.ks (fs := 2) hk (by decide) (G hp).2 (X hp).2.2.2.1 (O hp).2.2.2.2.1 (Or.inr rfl)⟩, (X hp).2⟩⟩
theorem EA_2_36 {P : Prop} {s : rS} {k S : Nat} {g : Nat → Int → Int} {it d lo x y e v n0 l h d' la : Int} (hk : rgk k) (G : Im P (GS s k g)) (O : Im P (OP s k g it 36 d lo x y e)) (L : Im P (LI s k g it 2 36 la)) (V : Im P (NR s k g S v n0 l h d')) (hso : ∀ q, so S q → so 6 q) (sd : Im P (x < l ∧ y ≤ l ∧ d + 0 ≤ d' ∧ la ≠ 0 ∧ la < v)) : ∃ g', Im P (GS (sT s k 5 la v) k g' ∧ OP (sT s k 5 la v) k g' it 36 d lo h h e ∧ LI (sT s k 5 la v) k g' it 2 36 v ∧ KS g g' it v 2 36 ∧ (g 2 it = 100000 ∧ g 3 it = 0) ∧ (g 3 v = 0 ∧ g 2 v ≤ 9000) ∧ g 3 la = it ∧ g 8 la = 2) := by
  obtain ⟨g', X⟩ := EAo_2_36 hk (fun hp => (G hp).1) O L V hso sd
  exact ⟨g', fun hp => ⟨⟨(X hp).1, GQ.ks (fs := 5) hk (by decide) (G hp).2 (X hp).2.2.2.1 (O hp).2.2.2.2.1 (Or.inl (by decide))⟩, (X hp).2⟩⟩
theorem EH_2_45 {P : Prop} {s : rS} {k S : Nat} {g : Nat → Int → Int} {it d lo x y e v n0 l h d' : Int} (hk : rgk k) (G : Im P (GS s k g)) (O : Im P (OP s k g it 45 d lo x y e)) {la : Int} (L : Im P (LI s k g it 2 45 la)) (V : Im P (NR s k g S v n0 l h d')) (hso : ∀ q, so S q → so 6 q) (sd : Im P (x ≤ l ∧ y ≤ l ∧ d + 0 ≤ d' ∧ la = 0)) : ∃ g', Im P (GS (sT s k 2 it v) k g' ∧ OP (sT s k 2 it v) k g' it 45 d lo h h e ∧ LI (sT s k 2 it v) k g' it 2 45 v ∧ KS g g' it v 2 45 ∧ (g 2 it = 100000 ∧ g 3 it = 0) ∧ (g 3 v = 0 ∧ g 2 v ≤ 9000)) := by
  obtain ⟨g', X⟩ := EHo_2_45 hk (fun hp => (G hp).1) O L V hso sd
  exact ⟨g', fun hp => ⟨⟨(X hp).1, GQ.ks (fs := 2) hk (by decide) (G hp).2 (X hp).2.2.2.1 (O hp).2.2.2.2.1 (Or.inr rfl)⟩, (X hp).2⟩⟩
theorem EA_2_45 {P : Prop} {s : rS} {k S : Nat} {g : Nat → Int → Int} {it d lo x y e v n0 l h d' la : Int} (hk : rgk k) (G : Im P (GS s k g)) (O : Im P (OP s k g it 45 d lo x y e)) (L : Im P (LI s k g it 2 45 la)) (V : Im P (NR s k g S v n0 l h d')) (hso : ∀ q, so S q → so 6 q) (sd : Im P (x < l ∧ y ≤ l ∧ d + 0 ≤ d' ∧ la ≠ 0 ∧ la < v)) : ∃ g', Im P (GS (sT s k 5 la v) k g' ∧ OP (sT s k 5 la v) k g' it 45 d lo h h e ∧ LI (sT s k 5 la v) k g' it 2 45 v ∧ KS g g' it v 2 45 ∧ (g 2 it = 100000 ∧ g 3 it = 0) ∧ (g 3 v = 0 ∧ g 2 v ≤ 9000) ∧ g 3 la = it ∧ g 8 la = 2) := by
  obtain ⟨g', X⟩ := EAo_2_45 hk (fun hp => (G hp).1) O L V hso sd
  exact ⟨g', fun hp => ⟨⟨(X hp).1, GQ.ks (fs := 5) hk (by decide) (G hp).2 (X hp).2.2.2.1 (O hp).2.2.2.2.1 (Or.inl (by decide))⟩, (X hp).2⟩⟩
theorem EH_1_37 {P : Prop} {s : rS} {k S : Nat} {g : Nat → Int → Int} {it d lo x y e v n0 l h d' : Int} (hk : rgk k) (G : Im P (GS s k g)) (O : Im P (OP s k g it 37 d lo x y e)) (V : Im P (NR s k g S v n0 l h d')) (hso : ∀ q, so S q → so 1 q) (sd : Im P (x ≤ l ∧ y ≤ l ∧ d + 1 ≤ d' ∧ x < 0)) : ∃ g', Im P (GS (sT s k 1 it v) k g' ∧ OP (sT s k 1 it v) k g' it 37 d lo h h e ∧ LI (sT s k 1 it v) k g' it 1 37 v ∧ KS g g' it v 1 37 ∧ (g 2 it = 100000 ∧ g 3 it = 0) ∧ (g 3 v = 0 ∧ g 2 v ≤ 9000)) := by
  obtain ⟨g', X⟩ := EHo_1_37 hk (fun hp => (G hp).1) O V hso sd
  exact ⟨g', fun hp => ⟨⟨(X hp).1, GQ.ks (fs := 1) hk (by decide) (G hp).2 (X hp).2.2.2.1 (O hp).2.2.2.2.1 (Or.inr rfl)⟩, (X hp).2⟩⟩
theorem EH_2_37 {P : Prop} {s : rS} {k S : Nat} {g : Nat → Int → Int} {it d lo x y e v n0 l h d' : Int} (hk : rgk k) (G : Im P (GS s k g)) (O : Im P (OP s k g it 37 d lo x y e)) {la : Int} (L : Im P (LI s k g it 2 37 la)) (V : Im P (NR s k g S v n0 l h d')) (hso : ∀ q, so S q → so 6 q) (sd : Im P (x ≤ l ∧ y ≤ l ∧ d + 0 ≤ d' ∧ la = 0)) : ∃ g', Im P (GS (sT s k 2 it v) k g' ∧ OP (sT s k 2 it v) k g' it 37 d lo h h e ∧ LI (sT s k 2 it v) k g' it 2 37 v ∧ KS g g' it v 2 37 ∧ (g 2 it = 100000 ∧ g 3 it = 0) ∧ (g 3 v = 0 ∧ g 2 v ≤ 9000)) := by
  obtain ⟨g', X⟩ := EHo_2_37 hk (fun hp => (G hp).1) O L V hso sd
  exact ⟨g', fun hp => ⟨⟨(X hp).1, GQ.ks (fs := 2) hk (by decide) (G hp).2 (X hp).2.2.2.1 (O hp).2.2.2.2.1 (Or.inr rfl)⟩, (X hp).2⟩⟩
theorem EA_2_37 {P : Prop} {s : rS} {k S : Nat} {g : Nat → Int → Int} {it d lo x y e v n0 l h d' la : Int} (hk : rgk k) (G : Im P (GS s k g)) (O : Im P (OP s k g it 37 d lo x y e)) (L : Im P (LI s k g it 2 37 la)) (V : Im P (NR s k g S v n0 l h d')) (hso : ∀ q, so S q → so 6 q) (sd : Im P (x < l ∧ y ≤ l ∧ d + 0 ≤ d' ∧ la ≠ 0 ∧ la < v)) : ∃ g', Im P (GS (sT s k 5 la v) k g' ∧ OP (sT s k 5 la v) k g' it 37 d lo h h e ∧ LI (sT s k 5 la v) k g' it 2 37 v ∧ KS g g' it v 2 37 ∧ (g 2 it = 100000 ∧ g 3 it = 0) ∧ (g 3 v = 0 ∧ g 2 v ≤ 9000) ∧ g 3 la = it ∧ g 8 la = 2) := by
  obtain ⟨g', X⟩ := EAo_2_37 hk (fun hp => (G hp).1) O L V hso sd
  exact ⟨g', fun hp => ⟨⟨(X hp).1, GQ.ks (fs := 5) hk (by decide) (G hp).2 (X hp).2.2.2.1 (O hp).2.2.2.2.1 (Or.inl (by decide))⟩, (X hp).2⟩⟩
theorem EH_1_46 {P : Prop} {s : rS} {k S : Nat} {g : Nat → Int → Int} {it d lo x y e v n0 l h d' : Int} (hk : rgk k) (G : Im P (GS s k g)) (O : Im P (OP s k g it 46 d lo x y e)) (V : Im P (NR s k g S v n0 l h d')) (hso : ∀ q, so S q → so 1 q) (sd : Im P (x ≤ l ∧ y ≤ l ∧ d + 1 ≤ d' ∧ x < 0)) : ∃ g', Im P (GS (sT s k 1 it v) k g' ∧ OP (sT s k 1 it v) k g' it 46 d lo h h e ∧ LI (sT s k 1 it v) k g' it 1 46 v ∧ KS g g' it v 1 46 ∧ (g 2 it = 100000 ∧ g 3 it = 0) ∧ (g 3 v = 0 ∧ g 2 v ≤ 9000)) := by
  obtain ⟨g', X⟩ := EHo_1_46 hk (fun hp => (G hp).1) O V hso sd
  exact ⟨g', fun hp => ⟨⟨(X hp).1, GQ.ks (fs := 1) hk (by decide) (G hp).2 (X hp).2.2.2.1 (O hp).2.2.2.2.1 (Or.inr rfl)⟩, (X hp).2⟩⟩
theorem EH_2_46 {P : Prop} {s : rS} {k S : Nat} {g : Nat → Int → Int} {it d lo x y e v n0 l h d' : Int} (hk : rgk k) (G : Im P (GS s k g)) (O : Im P (OP s k g it 46 d lo x y e)) {la : Int} (L : Im P (LI s k g it 2 46 la)) (V : Im P (NR s k g S v n0 l h d')) (hso : ∀ q, so S q → so 6 q) (sd : Im P (x ≤ l ∧ y ≤ l ∧ d + 0 ≤ d' ∧ la = 0)) : ∃ g', Im P (GS (sT s k 2 it v) k g' ∧ OP (sT s k 2 it v) k g' it 46 d lo h h e ∧ LI (sT s k 2 it v) k g' it 2 46 v ∧ KS g g' it v 2 46 ∧ (g 2 it = 100000 ∧ g 3 it = 0) ∧ (g 3 v = 0 ∧ g 2 v ≤ 9000)) := by
  obtain ⟨g', X⟩ := EHo_2_46 hk (fun hp => (G hp).1) O L V hso sd
  exact ⟨g', fun hp => ⟨⟨(X hp).1, GQ.ks (fs := 2) hk (by decide) (G hp).2 (X hp).2.2.2.1 (O hp).2.2.2.2.1 (Or.inr rfl)⟩, (X hp).2⟩⟩
theorem EA_2_46 {P : Prop} {s : rS} {k S : Nat} {g : Nat → Int → Int} {it d lo x y e v n0 l h d' la : Int} (hk : rgk k) (G : Im P (GS s k g)) (O : Im P (OP s k g it 46 d lo x y e)) (L : Im P (LI s k g it 2 46 la)) (V : Im P (NR s k g S v n0 l h d')) (hso : ∀ q, so S q → so 6 q) (sd : Im P (x < l ∧ y ≤ l ∧ d + 0 ≤ d' ∧ la ≠ 0 ∧ la < v)) : ∃ g', Im P (GS (sT s k 5 la v) k g' ∧ OP (sT s k 5 la v) k g' it 46 d lo h h e ∧ LI (sT s k 5 la v) k g' it 2 46 v ∧ KS g g' it v 2 46 ∧ (g 2 it = 100000 ∧ g 3 it = 0) ∧ (g 3 v = 0 ∧ g 2 v ≤ 9000) ∧ g 3 la = it ∧ g 8 la = 2) := by
  obtain ⟨g', X⟩ := EAo_2_46 hk (fun hp => (G hp).1) O L V hso sd
  exact ⟨g', fun hp => ⟨⟨(X hp).1, GQ.ks (fs := 5) hk (by decide) (G hp).2 (X hp).2.2.2.1 (O hp).2.2.2.2.1 (Or.inl (by decide))⟩, (X hp).2⟩⟩
theorem EH_2_38 {P : Prop} {s : rS} {k S : Nat} {g : Nat → Int → Int} {it d lo x y e v n0 l h d' : Int} (hk : rgk k) (G : Im P (GS s k g)) (O : Im P (OP s k g it 38 d lo x y e)) (V : Im P (NR s k g S v n0 l h d')) (hso : ∀ q, so S q → so 1 q) (sd : Im P (x ≤ l ∧ y ≤ l ∧ d + 1 ≤ d')) : ∃ g', Im P (GS (sT s k 2 it v) k g' ∧ OP (sT s k 2 it v) k g' it 38 d lo h h e ∧ LI (sT s k 2 it v) k g' it 2 38 v ∧ KS g g' it v 2 38 ∧ (g 2 it = 100000 ∧ g 3 it = 0) ∧ (g 3 v = 0 ∧ g 2 v ≤ 9000)) := by
  obtain ⟨g', X⟩ := EHo_2_38 hk (fun hp => (G hp).1) O V hso sd
  exact ⟨g', fun hp => ⟨⟨(X hp).1, GQ.ks (fs := 2) hk (by decide) (G hp).2 (X hp).2.2.2.1 (O hp).2.2.2.2.1 (Or.inr rfl)⟩, (X hp).2⟩⟩
theorem EH_1_39 {P : Prop} {s : rS} {k S : Nat} {g : Nat → Int → Int} {it d lo x y e v n0 l h d' : Int} (hk : rgk k) (G : Im P (GS s k g)) (O : Im P (OP s k g it 39 d lo x y e)) (V : Im P (NR s k g S v n0 l h d')) (hso : ∀ q, so S q → so 1 q) (sd : Im P (x ≤ l ∧ y ≤ l ∧ d + 1 ≤ d')) : ∃ g', Im P (GS (sT s k 1 it v) k g' ∧ OP (sT s k 1 it v) k g' it 39 d lo h h e ∧ LI (sT s k 1 it v) k g' it 1 39 v ∧ KS g g' it v 1 39 ∧ (g 2 it = 100000 ∧ g 3 it = 0) ∧ (g 3 v = 0 ∧ g 2 v ≤ 9000)) := by
  obtain ⟨g', X⟩ := EHo_1_39 hk (fun hp => (G hp).1) O V hso sd
  exact ⟨g', fun hp => ⟨⟨(X hp).1, GQ.ks (fs := 1) hk (by decide) (G hp).2 (X hp).2.2.2.1 (O hp).2.2.2.2.1 (Or.inr rfl)⟩, (X hp).2⟩⟩
theorem EH_1_43 {P : Prop} {s : rS} {k S : Nat} {g : Nat → Int → Int} {it d lo x y e v n0 l h d' : Int} (hk : rgk k) (G : Im P (GS s k g)) (O : Im P (OP s k g it 43 d lo x y e)) (V : Im P (NR s k g S v n0 l h d')) (hso : ∀ q, so S q → so 1 q) (sd : Im P (x ≤ l ∧ y ≤ l ∧ d + 1 ≤ d')) : ∃ g', Im P (GS (sT s k 1 it v) k g' ∧ OP (sT s k 1 it v) k g' it 43 d lo h h e ∧ LI (sT s k 1 it v) k g' it 1 43 v ∧ KS g g' it v 1 43 ∧ (g 2 it = 100000 ∧ g 3 it = 0) ∧ (g 3 v = 0 ∧ g 2 v ≤ 9000)) := by
  obtain ⟨g', X⟩ := EHo_1_43 hk (fun hp => (G hp).1) O V hso sd
  exact ⟨g', fun hp => ⟨⟨(X hp).1, GQ.ks (fs := 1) hk (by decide) (G hp).2 (X hp).2.2.2.1 (O hp).2.2.2.2.1 (Or.inr rfl)⟩, (X hp).2⟩⟩
theorem EH_1_50 {P : Prop} {s : rS} {k S : Nat} {g : Nat → Int → Int} {it d lo x y e v n0 l h d' : Int} (hk : rgk k) (G : Im P (GS s k g)) (O : Im P (OP s k g it 50 d lo x y e)) (V : Im P (NR s k g S v n0 l h d')) (hso : ∀ q, so S q → so 1 q) (sd : Im P (x ≤ l ∧ y ≤ l ∧ d + 1 ≤ d')) : ∃ g', Im P (GS (sT s k 1 it v) k g' ∧ OP (sT s k 1 it v) k g' it 50 d lo h h e ∧ LI (sT s k 1 it v) k g' it 1 50 v ∧ KS g g' it v 1 50 ∧ (g 2 it = 100000 ∧ g 3 it = 0) ∧ (g 3 v = 0 ∧ g 2 v ≤ 9000)) := by
  obtain ⟨g', X⟩ := EHo_1_50 hk (fun hp => (G hp).1) O V hso sd
  exact ⟨g', fun hp => ⟨⟨(X hp).1, GQ.ks (fs := 1) hk (by decide) (G hp).2 (X hp).2.2.2.1 (O hp).2.2.2.2.1 (Or.inr rfl)⟩, (X hp).2⟩⟩
theorem EH_1_51 {P : Prop} {s : rS} {k S : Nat} {g : Nat → Int → Int} {it d lo x y e v n0 l h d' : Int} (hk : rgk k) (G : Im P (GS s k g)) (O : Im P (OP s k g it 51 d lo x y e)) (V : Im P (NR s k g S v n0 l h d')) (hso : ∀ q, so S q → so 1 q) (sd : Im P (x ≤ l ∧ y ≤ l ∧ d + 1 ≤ d')) : ∃ g', Im P (GS (sT s k 1 it v) k g' ∧ OP (sT s k 1 it v) k g' it 51 d lo h h e ∧ LI (sT s k 1 it v) k g' it 1 51 v ∧ KS g g' it v 1 51 ∧ (g 2 it = 100000 ∧ g 3 it = 0) ∧ (g 3 v = 0 ∧ g 2 v ≤ 9000)) := by
  obtain ⟨g', X⟩ := EHo_1_51 hk (fun hp => (G hp).1) O V hso sd
  exact ⟨g', fun hp => ⟨⟨(X hp).1, GQ.ks (fs := 1) hk (by decide) (G hp).2 (X hp).2.2.2.1 (O hp).2.2.2.2.1 (Or.inr rfl)⟩, (X hp).2⟩⟩
theorem EH_1_60 {P : Prop} {s : rS} {k S : Nat} {g : Nat → Int → Int} {it d lo x y e v n0 l h d' : Int} (hk : rgk k) (G : Im P (GS s k g)) (O : Im P (OP s k g it 60 d lo x y e)) (V : Im P (NR s k g S v n0 l h d')) (hso : ∀ q, so S q → so 1 q) (sd : Im P (x ≤ l ∧ y ≤ l ∧ d + 1 ≤ d')) : ∃ g', Im P (GS (sT s k 1 it v) k g' ∧ OP (sT s k 1 it v) k g' it 60 d lo h h e ∧ LI (sT s k 1 it v) k g' it 1 60 v ∧ KS g g' it v 1 60 ∧ (g 2 it = 100000 ∧ g 3 it = 0) ∧ (g 3 v = 0 ∧ g 2 v ≤ 9000)) := by
  obtain ⟨g', X⟩ := EHo_1_60 hk (fun hp => (G hp).1) O V hso sd
  exact ⟨g', fun hp => ⟨⟨(X hp).1, GQ.ks (fs := 1) hk (by decide) (G hp).2 (X hp).2.2.2.1 (O hp).2.2.2.2.1 (Or.inr rfl)⟩, (X hp).2⟩⟩
theorem EH_1_58 {P : Prop} {s : rS} {k S : Nat} {g : Nat → Int → Int} {it d lo x y e v n0 l h d' : Int} (hk : rgk k) (G : Im P (GS s k g)) (O : Im P (OP s k g it 58 d lo x y e)) (V : Im P (NR s k g S v n0 l h d')) (hso : ∀ q, so S q → so 1 q) (sd : Im P (x ≤ l ∧ y ≤ l ∧ d + (-100) ≤ d')) : ∃ g', Im P (GS (sT s k 1 it v) k g' ∧ OP (sT s k 1 it v) k g' it 58 d lo h h e ∧ LI (sT s k 1 it v) k g' it 1 58 v ∧ KS g g' it v 1 58 ∧ (g 2 it = 100000 ∧ g 3 it = 0) ∧ (g 3 v = 0 ∧ g 2 v ≤ 9000)) := by
  obtain ⟨g', X⟩ := EHo_1_58 hk (fun hp => (G hp).1) O V hso sd
  exact ⟨g', fun hp => ⟨⟨(X hp).1, GQ.ks (fs := 1) hk (by decide) (G hp).2 (X hp).2.2.2.1 (O hp).2.2.2.2.1 (Or.inr rfl)⟩, (X hp).2⟩⟩
theorem EH_1_40 {P : Prop} {s : rS} {k S : Nat} {g : Nat → Int → Int} {it d lo x y e v n0 l h d' : Int} (hk : rgk k) (G : Im P (GS s k g)) (O : Im P (OP s k g it 40 d lo x y e)) {la : Int} (L : Im P (LI s k g it 1 40 la)) (V : Im P (NR s k g S v n0 l h d')) (hso : ∀ q, so S q → so 1 q) (sd : Im P (x ≤ l ∧ y ≤ l ∧ d + 1 ≤ d' ∧ la = 0 ∧ x < 0)) : ∃ g', Im P (GS (sT s k 1 it v) k g' ∧ OP (sT s k 1 it v) k g' it 40 d lo h h e ∧ LI (sT s k 1 it v) k g' it 1 40 v ∧ KS g g' it v 1 40 ∧ (g 2 it = 100000 ∧ g 3 it = 0) ∧ (g 3 v = 0 ∧ g 2 v ≤ 9000)) := by
  obtain ⟨g', X⟩ := EHo_1_40 hk (fun hp => (G hp).1) O L V hso sd
  exact ⟨g', fun hp => ⟨⟨(X hp).1, GQ.ks (fs := 1) hk (by decide) (G hp).2 (X hp).2.2.2.1 (O hp).2.2.2.2.1 (Or.inr rfl)⟩, (X hp).2⟩⟩
theorem EA_1_40 {P : Prop} {s : rS} {k S : Nat} {g : Nat → Int → Int} {it d lo x y e v n0 l h d' la : Int} (hk : rgk k) (G : Im P (GS s k g)) (O : Im P (OP s k g it 40 d lo x y e)) (L : Im P (LI s k g it 1 40 la)) (V : Im P (NR s k g S v n0 l h d')) (hso : ∀ q, so S q → so 1 q) (sd : Im P (x < l ∧ y ≤ l ∧ d + 1 ≤ d' ∧ la ≠ 0 ∧ la < v)) : ∃ g', Im P (GS (sT s k 5 la v) k g' ∧ OP (sT s k 5 la v) k g' it 40 d lo h h e ∧ LI (sT s k 5 la v) k g' it 1 40 v ∧ KS g g' it v 1 40 ∧ (g 2 it = 100000 ∧ g 3 it = 0) ∧ (g 3 v = 0 ∧ g 2 v ≤ 9000) ∧ g 3 la = it ∧ g 8 la = 1) := by
  obtain ⟨g', X⟩ := EAo_1_40 hk (fun hp => (G hp).1) O L V hso sd
  exact ⟨g', fun hp => ⟨⟨(X hp).1, GQ.ks (fs := 5) hk (by decide) (G hp).2 (X hp).2.2.2.1 (O hp).2.2.2.2.1 (Or.inl (by decide))⟩, (X hp).2⟩⟩
theorem EH_2_40 {P : Prop} {s : rS} {k S : Nat} {g : Nat → Int → Int} {it d lo x y e v n0 l h d' : Int} (hk : rgk k) (G : Im P (GS s k g)) (O : Im P (OP s k g it 40 d lo x y e)) (V : Im P (NR s k g S v n0 l h d')) (hso : ∀ q, so S q → so 10 q) (sd : Im P (x ≤ l ∧ y ≤ l ∧ d + (-100) ≤ d')) : ∃ g', Im P (GS (sT s k 2 it v) k g' ∧ OP (sT s k 2 it v) k g' it 40 d lo h h e ∧ LI (sT s k 2 it v) k g' it 2 40 v ∧ KS g g' it v 2 40 ∧ (g 2 it = 100000 ∧ g 3 it = 0) ∧ (g 3 v = 0 ∧ g 2 v ≤ 9000)) := by
  obtain ⟨g', X⟩ := EHo_2_40 hk (fun hp => (G hp).1) O V hso sd
  exact ⟨g', fun hp => ⟨⟨(X hp).1, GQ.ks (fs := 2) hk (by decide) (G hp).2 (X hp).2.2.2.1 (O hp).2.2.2.2.1 (Or.inr rfl)⟩, (X hp).2⟩⟩
theorem EH_1_47 {P : Prop} {s : rS} {k S : Nat} {g : Nat → Int → Int} {it d lo x y e v n0 l h d' : Int} (hk : rgk k) (G : Im P (GS s k g)) (O : Im P (OP s k g it 47 d lo x y e)) (V : Im P (NR s k g S v n0 l h d')) (hso : ∀ q, so S q → so 10 q) (sd : Im P (x ≤ l ∧ y ≤ l ∧ d + (-100) ≤ d')) : ∃ g', Im P (GS (sT s k 1 it v) k g' ∧ OP (sT s k 1 it v) k g' it 47 d lo h h e ∧ LI (sT s k 1 it v) k g' it 1 47 v ∧ KS g g' it v 1 47 ∧ (g 2 it = 100000 ∧ g 3 it = 0) ∧ (g 3 v = 0 ∧ g 2 v ≤ 9000)) := by
  obtain ⟨g', X⟩ := EHo_1_47 hk (fun hp => (G hp).1) O V hso sd
  exact ⟨g', fun hp => ⟨⟨(X hp).1, GQ.ks (fs := 1) hk (by decide) (G hp).2 (X hp).2.2.2.1 (O hp).2.2.2.2.1 (Or.inr rfl)⟩, (X hp).2⟩⟩
theorem EH_1_34 {P : Prop} {s : rS} {k S : Nat} {g : Nat → Int → Int} {it d lo x y e v n0 l h d' : Int} (hk : rgk k) (G : Im P (GS s k g)) (O : Im P (OP s k g it 34 d lo x y e)) {la : Int} (L : Im P (LI s k g it 1 34 la)) (V : Im P (NR s k g S v n0 l h d')) (hso : ∀ q, so S q → so 7 q) (sd : Im P (x ≤ l ∧ y ≤ l ∧ d + 0 ≤ d' ∧ la = 0)) : ∃ g', Im P (GS (sT s k 1 it v) k g' ∧ OP (sT s k 1 it v) k g' it 34 d lo h h e ∧ LI (sT s k 1 it v) k g' it 1 34 v ∧ KS g g' it v 1 34 ∧ (g 2 it = 100000 ∧ g 3 it = 0) ∧ (g 3 v = 0 ∧ g 2 v ≤ 9000)) := by
  obtain ⟨g', X⟩ := EHo_1_34 hk (fun hp => (G hp).1) O L V hso sd
  exact ⟨g', fun hp => ⟨⟨(X hp).1, GQ.ks (fs := 1) hk (by decide) (G hp).2 (X hp).2.2.2.1 (O hp).2.2.2.2.1 (Or.inr rfl)⟩, (X hp).2⟩⟩
theorem EA_1_34 {P : Prop} {s : rS} {k S : Nat} {g : Nat → Int → Int} {it d lo x y e v n0 l h d' la : Int} (hk : rgk k) (G : Im P (GS s k g)) (O : Im P (OP s k g it 34 d lo x y e)) (L : Im P (LI s k g it 1 34 la)) (V : Im P (NR s k g S v n0 l h d')) (hso : ∀ q, so S q → so 7 q) (sd : Im P (x < l ∧ y ≤ l ∧ d + 0 ≤ d' ∧ la ≠ 0 ∧ la < v)) : ∃ g', Im P (GS (sT s k 5 la v) k g' ∧ OP (sT s k 5 la v) k g' it 34 d lo h h e ∧ LI (sT s k 5 la v) k g' it 1 34 v ∧ KS g g' it v 1 34 ∧ (g 2 it = 100000 ∧ g 3 it = 0) ∧ (g 3 v = 0 ∧ g 2 v ≤ 9000) ∧ g 3 la = it ∧ g 8 la = 1) := by
  obtain ⟨g', X⟩ := EAo_1_34 hk (fun hp => (G hp).1) O L V hso sd
  exact ⟨g', fun hp => ⟨⟨(X hp).1, GQ.ks (fs := 5) hk (by decide) (G hp).2 (X hp).2.2.2.1 (O hp).2.2.2.2.1 (Or.inl (by decide))⟩, (X hp).2⟩⟩
theorem EH_1_33 {P : Prop} {s : rS} {k S : Nat} {g : Nat → Int → Int} {it d lo x y e v n0 l h d' : Int} (hk : rgk k) (G : Im P (GS s k g)) (O : Im P (OP s k g it 33 d lo x y e)) (V : Im P (NR s k g S v n0 l h d')) (hso : ∀ q, so S q → so 11 q) (sd : Im P (x ≤ l ∧ y ≤ l ∧ d + (-100) ≤ d')) : ∃ g', Im P (GS (sT s k 1 it v) k g' ∧ OP (sT s k 1 it v) k g' it 33 d lo h h e ∧ LI (sT s k 1 it v) k g' it 1 33 v ∧ KS g g' it v 1 33 ∧ (g 2 it = 100000 ∧ g 3 it = 0) ∧ (g 3 v = 0 ∧ g 2 v ≤ 9000)) := by
  obtain ⟨g', X⟩ := EHo_1_33 hk (fun hp => (G hp).1) O V hso sd
  exact ⟨g', fun hp => ⟨⟨(X hp).1, GQ.ks (fs := 1) hk (by decide) (G hp).2 (X hp).2.2.2.1 (O hp).2.2.2.2.1 (Or.inr rfl)⟩, (X hp).2⟩⟩
theorem EH_2_33 {P : Prop} {s : rS} {k S : Nat} {g : Nat → Int → Int} {it d lo x y e v n0 l h d' : Int} (hk : rgk k) (G : Im P (GS s k g)) (O : Im P (OP s k g it 33 d lo x y e)) {la : Int} (L : Im P (LI s k g it 2 33 la)) (V : Im P (NR s k g S v n0 l h d')) (hso : ∀ q, so S q → so 9 q) (sd : Im P (x ≤ l ∧ y ≤ l ∧ d + (-100) ≤ d' ∧ la = 0)) : ∃ g', Im P (GS (sT s k 2 it v) k g' ∧ OP (sT s k 2 it v) k g' it 33 d lo h h e ∧ LI (sT s k 2 it v) k g' it 2 33 v ∧ KS g g' it v 2 33 ∧ (g 2 it = 100000 ∧ g 3 it = 0) ∧ (g 3 v = 0 ∧ g 2 v ≤ 9000)) := by
  obtain ⟨g', X⟩ := EHo_2_33 hk (fun hp => (G hp).1) O L V hso sd
  exact ⟨g', fun hp => ⟨⟨(X hp).1, GQ.ks (fs := 2) hk (by decide) (G hp).2 (X hp).2.2.2.1 (O hp).2.2.2.2.1 (Or.inr rfl)⟩, (X hp).2⟩⟩
theorem EA_2_33 {P : Prop} {s : rS} {k S : Nat} {g : Nat → Int → Int} {it d lo x y e v n0 l h d' la : Int} (hk : rgk k) (G : Im P (GS s k g)) (O : Im P (OP s k g it 33 d lo x y e)) (L : Im P (LI s k g it 2 33 la)) (V : Im P (NR s k g S v n0 l h d')) (hso : ∀ q, so S q → so 9 q) (sd : Im P (x < l ∧ y ≤ l ∧ d + (-100) ≤ d' ∧ la ≠ 0 ∧ la < v)) : ∃ g', Im P (GS (sT s k 5 la v) k g' ∧ OP (sT s k 5 la v) k g' it 33 d lo h h e ∧ LI (sT s k 5 la v) k g' it 2 33 v ∧ KS g g' it v 2 33 ∧ (g 2 it = 100000 ∧ g 3 it = 0) ∧ (g 3 v = 0 ∧ g 2 v ≤ 9000) ∧ g 3 la = it ∧ g 8 la = 2) := by
  obtain ⟨g', X⟩ := EAo_2_33 hk (fun hp => (G hp).1) O L V hso sd
  exact ⟨g', fun hp => ⟨⟨(X hp).1, GQ.ks (fs := 5) hk (by decide) (G hp).2 (X hp).2.2.2.1 (O hp).2.2.2.2.1 (Or.inl (by decide))⟩, (X hp).2⟩⟩
theorem EH_2_53 {P : Prop} {s : rS} {k S : Nat} {g : Nat → Int → Int} {it d lo x y e v n0 l h d' : Int} (hk : rgk k) (G : Im P (GS s k g)) (O : Im P (OP s k g it 53 d lo x y e)) (V : Im P (NR s k g S v n0 l h d')) (hso : ∀ q, so S q → so 1 q) (sd : Im P (x ≤ l ∧ y ≤ l ∧ d + 1 ≤ d')) : ∃ g', Im P (GS (sT s k 2 it v) k g' ∧ OP (sT s k 2 it v) k g' it 53 d lo h h e ∧ LI (sT s k 2 it v) k g' it 2 53 v ∧ KS g g' it v 2 53 ∧ (g 2 it = 100000 ∧ g 3 it = 0) ∧ (g 3 v = 0 ∧ g 2 v ≤ 9000)) := by
  obtain ⟨g', X⟩ := EHo_2_53 hk (fun hp => (G hp).1) O V hso sd
  exact ⟨g', fun hp => ⟨⟨(X hp).1, GQ.ks (fs := 2) hk (by decide) (G hp).2 (X hp).2.2.2.1 (O hp).2.2.2.2.1 (Or.inr rfl)⟩, (X hp).2⟩⟩
theorem EH_1_4 {P : Prop} {s : rS} {k S : Nat} {g : Nat → Int → Int} {it d lo x y e v n0 l h d' : Int} (hk : rgk k) (G : Im P (GS s k g)) (O : Im P (OP s k g it 4 d lo x y e)) (V : Im P (NR s k g S v n0 l h d')) (hso : ∀ q, so S q → so 1 q) (sd : Im P (x ≤ l ∧ y ≤ l ∧ d + (-100) ≤ d' ∧ x < 0)) : ∃ g', Im P (GS (sT s k 1 it v) k g' ∧ OP (sT s k 1 it v) k g' it 4 d lo h h e ∧ LI (sT s k 1 it v) k g' it 1 4 v ∧ KS g g' it v 1 4 ∧ (g 2 it = 100000 ∧ g 3 it = 0) ∧ (g 3 v = 0 ∧ g 2 v ≤ 9000)) := by
  obtain ⟨g', X⟩ := EHo_1_4 hk (fun hp => (G hp).1) O V hso sd
  exact ⟨g', fun hp => ⟨⟨(X hp).1, GQ.ks (fs := 1) hk (by decide) (G hp).2 (X hp).2.2.2.1 (O hp).2.2.2.2.1 (Or.inr rfl)⟩, (X hp).2⟩⟩
theorem EH_2_4 {P : Prop} {s : rS} {k S : Nat} {g : Nat → Int → Int} {it d lo x y e v n0 l h d' : Int} (hk : rgk k) (G : Im P (GS s k g)) (O : Im P (OP s k g it 4 d lo x y e)) (V : Im P (NR s k g S v n0 l h d')) (hso : ∀ q, so S q → so 8 q) (sd : Im P (x ≤ l ∧ y ≤ l ∧ d + (-100) ≤ d')) : ∃ g', Im P (GS (sT s k 2 it v) k g' ∧ OP (sT s k 2 it v) k g' it 4 d lo h h e ∧ LI (sT s k 2 it v) k g' it 2 4 v ∧ KS g g' it v 2 4 ∧ (g 2 it = 100000 ∧ g 3 it = 0) ∧ (g 3 v = 0 ∧ g 2 v ≤ 9000)) := by
  obtain ⟨g', X⟩ := EHo_2_4 hk (fun hp => (G hp).1) O V hso sd
  exact ⟨g', fun hp => ⟨⟨(X hp).1, GQ.ks (fs := 2) hk (by decide) (G hp).2 (X hp).2.2.2.1 (O hp).2.2.2.2.1 (Or.inr rfl)⟩, (X hp).2⟩⟩
theorem EA_2_4 {P : Prop} {s : rS} {k S : Nat} {g : Nat → Int → Int} {it d lo x y e v n0 l h d' la : Int} (hk : rgk k) (G : Im P (GS s k g)) (O : Im P (OP s k g it 4 d lo x y e)) (L : Im P (LI s k g it 2 4 la)) (V : Im P (NR s k g S v n0 l h d')) (hso : ∀ q, so S q → so 8 q) (sd : Im P (x < l ∧ y ≤ l ∧ d + (-100) ≤ d' ∧ la ≠ 0 ∧ la < v)) : ∃ g', Im P (GS (sT s k 5 la v) k g' ∧ OP (sT s k 5 la v) k g' it 4 d lo h h e ∧ LI (sT s k 5 la v) k g' it 2 4 v ∧ KS g g' it v 2 4 ∧ (g 2 it = 100000 ∧ g 3 it = 0) ∧ (g 3 v = 0 ∧ g 2 v ≤ 9000) ∧ g 3 la = it ∧ g 8 la = 2) := by
  obtain ⟨g', X⟩ := EAo_2_4 hk (fun hp => (G hp).1) O L V hso sd
  exact ⟨g', fun hp => ⟨⟨(X hp).1, GQ.ks (fs := 5) hk (by decide) (G hp).2 (X hp).2.2.2.1 (O hp).2.2.2.2.1 (Or.inl (by decide))⟩, (X hp).2⟩⟩
theorem EH_1_5 {P : Prop} {s : rS} {k S : Nat} {g : Nat → Int → Int} {it d lo x y e v n0 l h d' : Int} (ix : Int) (hk : rgk k) (G : Im P (GS s k g)) (O : Im P (OP s k g it 5 d lo x y e)) (V : Im P (NR s k g S v n0 l h d')) (hso : ∀ q, so S q → so 13 q) (sd : Im P (x ≤ l ∧ y ≤ l ∧ d + 1 ≤ d' ∧ 0 ≤ ix ∧ ix ≤ 9000)) : ∃ g', Im P (GS (sT s k 1 it v) k g' ∧ OP (sT s k 1 it v) k g' it 5 d lo h h e ∧ LI (sT s k 1 it v) k g' it 1 5 v ∧ KS g g' it v 1 5 ∧ (g 2 it = 100000 ∧ g 3 it = 0) ∧ (g 3 v = 0 ∧ g 2 v ≤ 9000) ∧ g' 5 v = ix) := by
  obtain ⟨g', X⟩ := EHo_1_5 ix hk (fun hp => (G hp).1) O V hso sd
  exact ⟨g', fun hp => ⟨⟨(X hp).1, GQ.ks (fs := 1) hk (by decide) (G hp).2 (X hp).2.2.2.1 (O hp).2.2.2.2.1 (Or.inr rfl)⟩, (X hp).2⟩⟩
theorem EA_1_5 {P : Prop} {s : rS} {k S : Nat} {g : Nat → Int → Int} {it d lo x y e v n0 l h d' la : Int} (ix : Int) (hk : rgk k) (G : Im P (GS s k g)) (O : Im P (OP s k g it 5 d lo x y e)) (L : Im P (LI s k g it 1 5 la)) (V : Im P (NR s k g S v n0 l h d')) (hso : ∀ q, so S q → so 13 q) (sd : Im P (x ≤ l ∧ y ≤ l ∧ d + 1 ≤ d' ∧ la ≠ 0 ∧ g 5 la < ix ∧ ix ≤ 9000)) : ∃ g', Im P (GS (sT s k 5 la v) k g' ∧ OP (sT s k 5 la v) k g' it 5 d lo h h e ∧ LI (sT s k 5 la v) k g' it 1 5 v ∧ KS g g' it v 1 5 ∧ (g 2 it = 100000 ∧ g 3 it = 0) ∧ (g 3 v = 0 ∧ g 2 v ≤ 9000) ∧ g' 5 v = ix ∧ g 3 la = it ∧ g 8 la = 1) := by
  obtain ⟨g', X⟩ := EAo_1_5 ix hk (fun hp => (G hp).1) O L V hso sd
  exact ⟨g', fun hp => ⟨⟨(X hp).1, GQ.ks (fs := 5) hk (by decide) (G hp).2 (X hp).2.2.2.1 (O hp).2.2.2.2.1 (Or.inl (by decide))⟩, (X hp).2⟩⟩
theorem EH_1_8 {P : Prop} {s : rS} {k S : Nat} {g : Nat → Int → Int} {it d lo x y e v n0 l h d' : Int} (hk : rgk k) (G : Im P (GS s k g)) (O : Im P (OP s k g it 8 d lo x y e)) (V : Im P (NR s k g S v n0 l h d')) (hso : ∀ q, so S q → so 14 q) (sd : Im P (x ≤ l ∧ y ≤ l ∧ d + (-100) ≤ d' ∧ x < 0)) : ∃ g', Im P (GS (sT s k 1 it v) k g' ∧ OP (sT s k 1 it v) k g' it 8 d lo h h e ∧ LI (sT s k 1 it v) k g' it 1 8 v ∧ KS g g' it v 1 8 ∧ (g 2 it = 100000 ∧ g 3 it = 0) ∧ (g 3 v = 0 ∧ g 2 v ≤ 9000)) := by
  obtain ⟨g', X⟩ := EHo_1_8 hk (fun hp => (G hp).1) O V hso sd
  exact ⟨g', fun hp => ⟨⟨(X hp).1, GQ.ks (fs := 1) hk (by decide) (G hp).2 (X hp).2.2.2.1 (O hp).2.2.2.2.1 (Or.inr rfl)⟩, (X hp).2⟩⟩
theorem EH_2_8 {P : Prop} {s : rS} {k S : Nat} {g : Nat → Int → Int} {it d lo x y e v n0 l h d' : Int} (hk : rgk k) (G : Im P (GS s k g)) (O : Im P (OP s k g it 8 d lo x y e)) (V : Im P (NR s k g S v n0 l h d')) (hso : ∀ q, so S q → so 11 q) (sd : Im P (x ≤ l ∧ y ≤ l ∧ d + 0 ≤ d')) : ∃ g', Im P (GS (sT s k 2 it v) k g' ∧ OP (sT s k 2 it v) k g' it 8 d lo h h e ∧ LI (sT s k 2 it v) k g' it 2 8 v ∧ KS g g' it v 2 8 ∧ (g 2 it = 100000 ∧ g 3 it = 0) ∧ (g 3 v = 0 ∧ g 2 v ≤ 9000)) := by
  obtain ⟨g', X⟩ := EHo_2_8 hk (fun hp => (G hp).1) O V hso sd
  exact ⟨g', fun hp => ⟨⟨(X hp).1, GQ.ks (fs := 2) hk (by decide) (G hp).2 (X hp).2.2.2.1 (O hp).2.2.2.2.1 (Or.inr rfl)⟩, (X hp).2⟩⟩
theorem EH_1_9 {P : Prop} {s : rS} {k S : Nat} {g : Nat → Int → Int} {it d lo x y e v n0 l h d' : Int} (ix : Int) (hk : rgk k) (G : Im P (GS s k g)) (O : Im P (OP s k g it 9 d lo x y e)) (V : Im P (NR s k g S v n0 l h d')) (hso : ∀ q, so S q → so 12 q) (sd : Im P (x ≤ l ∧ y ≤ l ∧ d + 0 ≤ d' ∧ 0 ≤ ix ∧ ix ≤ 9000)) : ∃ g', Im P (GS (sT s k 1 it v) k g' ∧ OP (sT s k 1 it v) k g' it 9 d lo h h e ∧ LI (sT s k 1 it v) k g' it 1 9 v ∧ KS g g' it v 1 9 ∧ (g 2 it = 100000 ∧ g 3 it = 0) ∧ (g 3 v = 0 ∧ g 2 v ≤ 9000) ∧ g' 5 v = ix) := by
  obtain ⟨g', X⟩ := EHo_1_9 ix hk (fun hp => (G hp).1) O V hso sd
  exact ⟨g', fun hp => ⟨⟨(X hp).1, GQ.ks (fs := 1) hk (by decide) (G hp).2 (X hp).2.2.2.1 (O hp).2.2.2.2.1 (Or.inr rfl)⟩, (X hp).2⟩⟩
theorem EA_1_9 {P : Prop} {s : rS} {k S : Nat} {g : Nat → Int → Int} {it d lo x y e v n0 l h d' la : Int} (ix : Int) (hk : rgk k) (G : Im P (GS s k g)) (O : Im P (OP s k g it 9 d lo x y e)) (L : Im P (LI s k g it 1 9 la)) (V : Im P (NR s k g S v n0 l h d')) (hso : ∀ q, so S q → so 12 q) (sd : Im P (x ≤ l ∧ y ≤ l ∧ d + 0 ≤ d' ∧ la ≠ 0 ∧ g 5 la < ix ∧ ix ≤ 9000)) : ∃ g', Im P (GS (sT s k 5 la v) k g' ∧ OP (sT s k 5 la v) k g' it 9 d lo h h e ∧ LI (sT s k 5 la v) k g' it 1 9 v ∧ KS g g' it v 1 9 ∧ (g 2 it = 100000 ∧ g 3 it = 0) ∧ (g 3 v = 0 ∧ g 2 v ≤ 9000) ∧ g' 5 v = ix ∧ g 3 la = it ∧ g 8 la = 1) := by
  obtain ⟨g', X⟩ := EAo_1_9 ix hk (fun hp => (G hp).1) O L V hso sd
  exact ⟨g', fun hp => ⟨⟨(X hp).1, GQ.ks (fs := 5) hk (by decide) (G hp).2 (X hp).2.2.2.1 (O hp).2.2.2.2.1 (Or.inl (by decide))⟩, (X hp).2⟩⟩
theorem EH_2_6 {P : Prop} {s : rS} {k S : Nat} {g : Nat → Int → Int} {it d lo x y e v n0 l h d' : Int} (hk : rgk k) (G : Im P (GS s k g)) (O : Im P (OP s k g it 6 d lo x y e)) (V : Im P (NR s k g S v n0 l h d')) (hso : ∀ q, so S q → so 11 q) (sd : Im P (x ≤ l ∧ y ≤ l ∧ d + (-100) ≤ d')) : ∃ g', Im P (GS (sT s k 2 it v) k g' ∧ OP (sT s k 2 it v) k g' it 6 d lo h h e ∧ LI (sT s k 2 it v) k g' it 2 6 v ∧ KS g g' it v 2 6 ∧ (g 2 it = 100000 ∧ g 3 it = 0) ∧ (g 3 v = 0 ∧ g 2 v ≤ 9000)) := by
  obtain ⟨g', X⟩ := EHo_2_6 hk (fun hp => (G hp).1) O V hso sd
  exact ⟨g', fun hp => ⟨⟨(X hp).1, GQ.ks (fs := 2) hk (by decide) (G hp).2 (X hp).2.2.2.1 (O hp).2.2.2.2.1 (Or.inr rfl)⟩, (X hp).2⟩⟩
theorem EH_1_55 {P : Prop} {s : rS} {k S : Nat} {g : Nat → Int → Int} {it d lo x y e v n0 l h d' : Int} (hk : rgk k) (G : Im P (GS s k g)) (O : Im P (OP s k g it 55 d lo x y e)) (V : Im P (NR s k g S v n0 l h d')) (hso : ∀ q, so S q → so 15 q) (sd : Im P (x ≤ l ∧ y ≤ l ∧ d + 0 ≤ d')) : ∃ g', Im P (GS (sT s k 1 it v) k g' ∧ OP (sT s k 1 it v) k g' it 55 d lo h h e ∧ LI (sT s k 1 it v) k g' it 1 55 v ∧ KS g g' it v 1 55 ∧ (g 2 it = 100000 ∧ g 3 it = 0) ∧ (g 3 v = 0 ∧ g 2 v ≤ 9000)) := by
  obtain ⟨g', X⟩ := EHo_1_55 hk (fun hp => (G hp).1) O V hso sd
  exact ⟨g', fun hp => ⟨⟨(X hp).1, GQ.ks (fs := 1) hk (by decide) (G hp).2 (X hp).2.2.2.1 (O hp).2.2.2.2.1 (Or.inr rfl)⟩, (X hp).2⟩⟩
theorem EA_1_55 {P : Prop} {s : rS} {k S : Nat} {g : Nat → Int → Int} {it d lo x y e v n0 l h d' la : Int} (hk : rgk k) (G : Im P (GS s k g)) (O : Im P (OP s k g it 55 d lo x y e)) (L : Im P (LI s k g it 1 55 la)) (V : Im P (NR s k g S v n0 l h d')) (hso : ∀ q, so S q → so 15 q) (sd : Im P (x < l ∧ y ≤ l ∧ d + 0 ≤ d' ∧ la ≠ 0 ∧ la < v)) : ∃ g', Im P (GS (sT s k 5 la v) k g' ∧ OP (sT s k 5 la v) k g' it 55 d lo h h e ∧ LI (sT s k 5 la v) k g' it 1 55 v ∧ KS g g' it v 1 55 ∧ (g 2 it = 100000 ∧ g 3 it = 0) ∧ (g 3 v = 0 ∧ g 2 v ≤ 9000) ∧ g 3 la = it ∧ g 8 la = 1) := by
  obtain ⟨g', X⟩ := EAo_1_55 hk (fun hp => (G hp).1) O L V hso sd
  exact ⟨g', fun hp => ⟨⟨(X hp).1, GQ.ks (fs := 5) hk (by decide) (G hp).2 (X hp).2.2.2.1 (O hp).2.2.2.2.1 (Or.inl (by decide))⟩, (X hp).2⟩⟩
theorem EH_1_56 {P : Prop} {s : rS} {k S : Nat} {g : Nat → Int → Int} {it d lo x y e v n0 l h d' : Int} (hk : rgk k) (G : Im P (GS s k g)) (O : Im P (OP s k g it 56 d lo x y e)) (V : Im P (NR s k g S v n0 l h d')) (hso : ∀ q, so S q → so 16 q) (sd : Im P (x ≤ l ∧ y ≤ l ∧ d + 0 ≤ d')) : ∃ g', Im P (GS (sT s k 1 it v) k g' ∧ OP (sT s k 1 it v) k g' it 56 d lo h h e ∧ LI (sT s k 1 it v) k g' it 1 56 v ∧ KS g g' it v 1 56 ∧ (g 2 it = 100000 ∧ g 3 it = 0) ∧ (g 3 v = 0 ∧ g 2 v ≤ 9000)) := by
  obtain ⟨g', X⟩ := EHo_1_56 hk (fun hp => (G hp).1) O V hso sd
  exact ⟨g', fun hp => ⟨⟨(X hp).1, GQ.ks (fs := 1) hk (by decide) (G hp).2 (X hp).2.2.2.1 (O hp).2.2.2.2.1 (Or.inr rfl)⟩, (X hp).2⟩⟩
theorem EA_1_56 {P : Prop} {s : rS} {k S : Nat} {g : Nat → Int → Int} {it d lo x y e v n0 l h d' la : Int} (hk : rgk k) (G : Im P (GS s k g)) (O : Im P (OP s k g it 56 d lo x y e)) (L : Im P (LI s k g it 1 56 la)) (V : Im P (NR s k g S v n0 l h d')) (hso : ∀ q, so S q → so 16 q) (sd : Im P (x < l ∧ y ≤ l ∧ d + 0 ≤ d' ∧ la ≠ 0 ∧ la < v)) : ∃ g', Im P (GS (sT s k 5 la v) k g' ∧ OP (sT s k 5 la v) k g' it 56 d lo h h e ∧ LI (sT s k 5 la v) k g' it 1 56 v ∧ KS g g' it v 1 56 ∧ (g 2 it = 100000 ∧ g 3 it = 0) ∧ (g 3 v = 0 ∧ g 2 v ≤ 9000) ∧ g 3 la = it ∧ g 8 la = 1) := by
  obtain ⟨g', X⟩ := EAo_1_56 hk (fun hp => (G hp).1) O L V hso sd
  exact ⟨g', fun hp => ⟨⟨(X hp).1, GQ.ks (fs := 5) hk (by decide) (G hp).2 (X hp).2.2.2.1 (O hp).2.2.2.2.1 (Or.inl (by decide))⟩, (X hp).2⟩⟩
theorem EH_1_57 {P : Prop} {s : rS} {k S : Nat} {g : Nat → Int → Int} {it d lo x y e v n0 l h d' : Int} (hk : rgk k) (G : Im P (GS s k g)) (O : Im P (OP s k g it 57 d lo x y e)) (V : Im P (NR s k g S v n0 l h d')) (hso : ∀ q, so S q → so 16 q) (sd : Im P (x ≤ l ∧ y ≤ l ∧ d + 1 ≤ d')) : ∃ g', Im P (GS (sT s k 1 it v) k g' ∧ OP (sT s k 1 it v) k g' it 57 d lo h h e ∧ LI (sT s k 1 it v) k g' it 1 57 v ∧ KS g g' it v 1 57 ∧ (g 2 it = 100000 ∧ g 3 it = 0) ∧ (g 3 v = 0 ∧ g 2 v ≤ 9000)) := by
  obtain ⟨g', X⟩ := EHo_1_57 hk (fun hp => (G hp).1) O V hso sd
  exact ⟨g', fun hp => ⟨⟨(X hp).1, GQ.ks (fs := 1) hk (by decide) (G hp).2 (X hp).2.2.2.1 (O hp).2.2.2.2.1 (Or.inr rfl)⟩, (X hp).2⟩⟩
theorem EH_1_59 {P : Prop} {s : rS} {k S : Nat} {g : Nat → Int → Int} {it d lo x y e v n0 l h d' : Int} (hk : rgk k) (G : Im P (GS s k g)) (O : Im P (OP s k g it 59 d lo x y e)) (V : Im P (NR s k g S v n0 l h d')) (hso : ∀ q, so S q → so 14 q) (sd : Im P (x ≤ l ∧ y ≤ l ∧ d + 1 ≤ d')) : ∃ g', Im P (GS (sT s k 1 it v) k g' ∧ OP (sT s k 1 it v) k g' it 59 d lo h h e ∧ LI (sT s k 1 it v) k g' it 1 59 v ∧ KS g g' it v 1 59 ∧ (g 2 it = 100000 ∧ g 3 it = 0) ∧ (g 3 v = 0 ∧ g 2 v ≤ 9000)) := by
  obtain ⟨g', X⟩ := EHo_1_59 hk (fun hp => (G hp).1) O V hso sd
  exact ⟨g', fun hp => ⟨⟨(X hp).1, GQ.ks (fs := 1) hk (by decide) (G hp).2 (X hp).2.2.2.1 (O hp).2.2.2.2.1 (Or.inr rfl)⟩, (X hp).2⟩⟩
theorem EZI {P : Prop} {s : rS} {k : Nat} {g : Nat → Int → Int} {v n0 lo hi d : Int} (G : Im P (GS s k g)) (V : Im P (NR s k g 1 v n0 lo hi d)) (sd : Im P (0 ≤ lo ∧ lo ≤ hi)) : ∃ g', Im P (GS s k g' ∧ ZL s k g' v v 1 lo hi d ∧ KZ g g' v v) := by
  obtain ⟨g', X⟩ := EZIo (fun hp => (G hp).1) V sd
  exact ⟨g', fun hp => ⟨⟨(X hp).1, GQ.kz (G hp).2 (X hp).2.2⟩, (X hp).2⟩⟩
theorem EZA {P : Prop} {s : rS} {k : Nat} {g : Nat → Int → Int} {F l n lo x d v n0 l2 h2 d' : Int} (hk : rgk k) (G : Im P (GS s k g)) (Z : Im P (ZL s k g F l n lo x d)) (V : Im P (NR s k g 1 v n0 l2 h2 d')) (sd : Im P (x < l2 ∧ l < v ∧ d' = d)) : ∃ g', Im P (GS (sT s k 5 l v) k g' ∧ ZL (sT s k 5 l v) k g' F v (n + 1) lo h2 d ∧ KZ g g' v F ∧ g 3 l = -F) := by
  obtain ⟨g', X⟩ := EZAo hk (fun hp => (G hp).1) Z V sd
  exact ⟨g', fun hp => ⟨⟨(X hp).1, GQ.kz5 hk (G hp).2 (X hp).2.2.1⟩, (X hp).2⟩⟩
theorem EZZ {P : Prop} {s t : rS} {k : Nat} {g : Nat → Int → Int} {r F l n lo x d x3 : Int} (hk : rgk k) (G : Im P (GS s k g)) (Z : Im P (ZL s k g F l n lo x d)) (R : Im P (RG s t k 0)) (hr : r = rF s k 7) (hN : rF t k 7 = rF s k 7 + 1) (h0 : tr t k 0 r = 40) (h1 : tr t k 1 r = F) (h2 : tr t k 2 r = x3) (h5 : tr t k 5 r = 0) (sd : Im P (0 < rF s k 7 ∧ 0 ≤ d ∧ d ≤ 21 ∧ rF s k 12 ≤ rF t k 12 ∧ x3 = 0)) (hC : rF t k 38 = rF s k 38 := by first | assumption | omega | (simp only [rF_sT, rF_sA]; omega)): ∃ g', Im P (GS t k g' ∧ OP t k g' r 40 (d - 1) lo x x 0 ∧ KZZ g g' (rF s k 7) F ∧ g' 6 r = n) := by
  obtain ⟨g', X⟩ := EZZo hk (fun hp => (G hp).1) Z R hr hN h0 h1 h2 h5 sd
  exact ⟨g', fun hp => ⟨⟨(X hp).1, GQ.en hk (G hp).2 (R hp) hN hC (fun j m hm j3 _ _ => (X hp).2.2.1.2.1 j m hm (Or.inl j3)) (by have := (X hp).2.1.2.2.2.2.1; rw [hr] at this; exact this)⟩, (X hp).2⟩⟩
theorem EN_TF {P : Prop} {s t : rS} {k : Nat} {g : Nat → Int → Int} {r x1 x2 x3 : Int} (b d : Int) (hk : rgk k) (G : Im P (GS s k g)) (R : Im P (RG s t k 0)) (hr : r = rF s k 7) (hN : rF t k 7 = rF s k 7 + 1) (h0 : tr t k 0 r = x1) (h1 : tr t k 1 r = x2) (h2 : tr t k 2 r = x3) (h5 : tr t k 5 r = 0) (hx : x1 = 31 ∨ x1 = 32) (sd : Im P (0 < rF s k 7 ∧ (0 ≤ b ∧ b ≤ 9000) ∧ (-1 ≤ d ∧ d ≤ 21) ∧ rF s k 12 ≤ rF t k 12 ∧ True ∧ True)) (hC : rF t k 38 = rF s k 38 := by first | assumption | omega | (simp only [rF_sT, rF_sA]; omega)) : ∃ g', Im P (GS t k g' ∧ GK g g' (rF s k 7) (rF t k 7) 0 ∧ NR t k g' 2 r r b b d) := by
  rcases hx with rfl | rfl
  · obtain ⟨g1, X1⟩ := EN_31 b d hk G R hr hN h0 h1 h2 h5 sd hC
    obtain ⟨g2, X2⟩ := EC_31 b (fun hp => (X1 hp).1) (fun hp => (X1 hp).2.2.1) (fun hp => by have := sd hp; omega)
    exact ⟨g2, fun hp => ⟨(X2 hp).1, GK.kc (X1 hp).2.1 (X2 hp).2.2 (by omega), (X2 hp).2.1⟩⟩
  · obtain ⟨g1, X1⟩ := EN_32 b d hk G R hr hN h0 h1 h2 h5 sd hC
    obtain ⟨g2, X2⟩ := EC_32 b (fun hp => (X1 hp).1) (fun hp => (X1 hp).2.2.1) (fun hp => by have := sd hp; omega)
    exact ⟨g2, fun hp => ⟨(X2 hp).1, GK.kc (X1 hp).2.1 (X2 hp).2.2 (by omega), (X2 hp).2.1⟩⟩
theorem EH_2_c {P : Prop} {s : rS} {k S K : Nat} {g : Nat → Int → Int} {it d lo x y e v n0 l h d' : Int} (hK : K = 36 ∨ K = 37 ∨ K = 45 ∨ K = 46) (hk : rgk k) (G : Im P (GS s k g)) (O : Im P (OP s k g it K d lo x y e)) {la : Int} (L : Im P (LI s k g it 2 K la)) (V : Im P (NR s k g S v n0 l h d')) (hso : ∀ q, so S q → so 6 q) (sd : Im P (x ≤ l ∧ y ≤ l ∧ d + 0 ≤ d' ∧ la = 0)) : ∃ g', Im P (GS (sT s k 2 it v) k g' ∧ OP (sT s k 2 it v) k g' it K d lo h h e ∧ LI (sT s k 2 it v) k g' it 2 K v ∧ KS g g' it v 2 K ∧ (g 2 it = 100000 ∧ g 3 it = 0) ∧ (g 3 v = 0 ∧ g 2 v ≤ 9000)) := by
  rcases hK with rfl | rfl | rfl | rfl
  · exact EH_2_36 hk G O L V hso sd
  · exact EH_2_37 hk G O L V hso sd
  · exact EH_2_45 hk G O L V hso sd
  · exact EH_2_46 hk G O L V hso sd
theorem EA_2_c {P : Prop} {s : rS} {k S K : Nat} {g : Nat → Int → Int} {it d lo x y e v n0 l h d' : Int} (hK : K = 36 ∨ K = 37 ∨ K = 45 ∨ K = 46) (hk : rgk k) (G : Im P (GS s k g)) (O : Im P (OP s k g it K d lo x y e)) {la : Int} (L : Im P (LI s k g it 2 K la)) (V : Im P (NR s k g S v n0 l h d')) (hso : ∀ q, so S q → so 6 q) (sd : Im P (x < l ∧ y ≤ l ∧ d + 0 ≤ d' ∧ la ≠ 0 ∧ la < v)) : ∃ g', Im P (GS (sT s k 5 la v) k g' ∧ OP (sT s k 5 la v) k g' it K d lo h h e ∧ LI (sT s k 5 la v) k g' it 2 K v ∧ KS g g' it v 2 K ∧ (g 2 it = 100000 ∧ g 3 it = 0) ∧ (g 3 v = 0 ∧ g 2 v ≤ 9000) ∧ g 3 la = it ∧ g 8 la = 2) := by
  rcases hK with rfl | rfl | rfl | rfl
  · exact EA_2_36 hk G O L V hso sd
  · exact EA_2_37 hk G O L V hso sd
  · exact EA_2_45 hk G O L V hso sd
  · exact EA_2_46 hk G O L V hso sd
theorem EN_c {P : Prop} {s t : rS} {k K : Nat} {g : Nat → Int → Int} {r x1 x2 x3 : Int} (b d : Int) (hK : K = 36 ∨ K = 45) (hx : x1 = (K : Int)) (hk : rgk k) (G : Im P (GS s k g)) (R : Im P (RG s t k 0)) (hr : r = rF s k 7) (hN : rF t k 7 = rF s k 7 + 1) (h0 : tr t k 0 r = x1) (h1 : tr t k 1 r = x2) (h2 : tr t k 2 r = x3) (h5 : tr t k 5 r = 0) (sd : Im P (0 < rF s k 7 ∧ (0 ≤ b ∧ b ≤ 9000) ∧ (-1 ≤ d ∧ d ≤ 21) ∧ rF s k 12 ≤ rF t k 12 ∧ (x3 = 0) ∧ True)) (hC : rF t k 38 = rF s k 38 := by first | assumption | omega | (simp only [rF_sT, rF_sA]; omega)) : ∃ g', Im P (GS t k g' ∧ GK g g' (rF s k 7) (rF t k 7) 0 ∧ OP t k g' r K d b (-1) b 0 ∧ g' 6 r = 0) := by
  rcases hK with rfl | rfl
  · exact EN_36 b d hk G R hr hN (h0.trans hx) h1 h2 h5 sd hC
  · exact EN_45 b d hk G R hr hN (h0.trans hx) h1 h2 h5 sd hC
theorem EC_c {P : Prop} {s : rS} {k K : Nat} {g : Nat → Int → Int} {it d lo x y e : Int} (b : Int) (hK : K = 36 ∨ K = 45) (G : Im P (GS s k g)) (O : Im P (OP s k g it K d lo x y e)) (sd : Im P (x ≤ b ∧ y ≤ b ∧ b ≤ 9000)) : ∃ g', Im P (GS s k g' ∧ NR s k g' (if K = 36 then 2 else 5) it it lo b d ∧ KC g g' it) := by
  rcases hK with rfl | rfl
  · exact EC_36 b G O sd
  · exact EC_45 b G O sd
