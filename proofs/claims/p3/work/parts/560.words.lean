/-! how words nest -/
def stp (q : Int) (L : List Int) : Option (List Int) :=
  if q = 5 ∨ q = 25 then (if L.length < 20 then some (q :: L) else none)
  else if q = 22 then (match L with | x :: t => if x = 5 then some (x :: t) else none | [] => none)
  else if q = 23 then (match L with | x :: t => if x = 5 then some ((23 : Int) :: t) else none | [] => none)
  else if q = 24 then (match L with | x :: t => if x = 5 ∨ x = 23 then some t else none | [] => none)
  else if q = 26 then (match L with | x :: t => if x = 25 then some t else none | [] => none)
  else some L
theorem stp_5 {q : Int} {L L' : List Int} (h : stp q L = some L') (hq : q = 5 ∨ q = 25) : L.length < 20 ∧ L' = q :: L := by
  unfold stp at h
  rw [if_pos hq] at h
  split at h
  · rename_i hl; exact ⟨hl, (Option.some.inj h).symm⟩
  · cases h
theorem stp_22 {L L' : List Int} (h : stp 22 L = some L') : ∃ t, L = 5 :: t ∧ L' = L := by
  cases L with
  | nil => simp [stp] at h
  | cons x t =>
    by_cases e : x = 5
    · subst e; simp [stp] at h; exact ⟨t, rfl, h.symm⟩
    · simp [stp, e] at h
theorem stp_23 {L L' : List Int} (h : stp 23 L = some L') : ∃ t, L = 5 :: t ∧ L' = 23 :: t := by
  cases L with
  | nil => simp [stp] at h
  | cons x t =>
    by_cases e : x = 5
    · subst e; simp [stp] at h; exact ⟨t, rfl, h.symm⟩
    · simp [stp, e] at h
theorem stp_24 {L L' : List Int} (h : stp 24 L = some L') : ∃ x, L = x :: L' ∧ (x = 5 ∨ x = 23) := by
  cases L with
  | nil => simp [stp] at h
  | cons x t =>
    by_cases e : x = 5 ∨ x = 23
    · simp [stp, e] at h; exact ⟨x, by rw [h], e⟩
    · simp [stp, e] at h
theorem stp_26 {L L' : List Int} (h : stp 26 L = some L') : L = 25 :: L' := by
  cases L with
  | nil => simp [stp] at h
  | cons x t =>
    by_cases e : x = 25
    · subst e; simp [stp] at h; rw [h]
    · simp [stp, e] at h
theorem stp_o {q : Int} {L : List Int} (h : q ≠ 5 ∧ q ≠ 25 ∧ q ≠ 22 ∧ q ≠ 23 ∧ q ≠ 24 ∧ q ≠ 26) : stp q L = some L := by
  obtain ⟨a, b, c, d, e, f⟩ := h
  simp [stp, a, b, c, d, e, f]
theorem stp_p {q : Int} {L : List Int} (hq : q = 5 ∨ q = 25) (hl : L.length < 20) : stp q L = some (q :: L) := by
  unfold stp; rw [if_pos hq, if_pos hl]
theorem stp_c22 {t : List Int} : stp 22 (5 :: t) = some (5 :: t) := by simp [stp]
theorem stp_c23 {t : List Int} : stp 23 (5 :: t) = some (23 :: t) := by simp [stp]
theorem stp_c24 {x : Int} {t : List Int} (h : x = 5 ∨ x = 23) : stp 24 (x :: t) = some t := by simp [stp, h]
theorem stp_c26 {t : List Int} : stp 26 (25 :: t) = some t := by simp [stp]
def w_run (b : Int → Int) : Nat → Int → List Int → Option (List Int)
  | 0, _, L => some L
  | m + 1, a, L => match stp (b a) L with
    | none => none
    | some L' => w_run b m (a + 1) L'
theorem w_run_s {b : Int → Int} {m : Nat} {a : Int} {L L' L'' : List Int} (h : stp (b a) L = some L') (h' : w_run b m (a + 1) L' = some L'') : w_run b (m + 1) a L = some L'' := by
  simp only [w_run, h]; exact h'
theorem w_run_i {b : Int → Int} {m : Nat} {a : Int} {L L'' : List Int} (h : w_run b (m + 1) a L = some L'') : ∃ L', stp (b a) L = some L' ∧ w_run b m (a + 1) L' = some L'' := by
  cases q : stp (b a) L with
  | none => simp only [w_run, q] at h; cases h
  | some L' => simp only [w_run, q] at h; exact ⟨L', rfl, h⟩
theorem w_run_n {b : Int → Int} : ∀ (m : Nat) (a : Int) (L L' L'' : List Int), w_run b m a L = some L' → stp (b (a + m)) L' = some L'' → w_run b (m + 1) a L = some L'' := by
  intro m
  induction m with
  | zero =>
    intro a L L' L'' h h'
    have e : L = L' := Option.some.inj h
    subst e
    have e2 : a + ((0 : Nat) : Int) = a := by omega
    rw [e2] at h'
    exact w_run_s h' rfl
  | succ m ih =>
    intro a L L' L'' h h'
    obtain ⟨L1, h1, h2⟩ := w_run_i h
    have e : a + 1 + (m : Int) = a + ((m + 1 : Nat) : Int) := by omega
    exact w_run_s h1 (ih (a + 1) L1 L' L'' h2 (by rw [e]; exact h'))
theorem w_run_c {b b' : Int → Int} : ∀ (m : Nat) (a : Int) (L L' : List Int), (∀ j, a ≤ j → j < a + m → b' j = b j) → w_run b m a L = some L' → w_run b' m a L = some L' := by
  intro m
  induction m with
  | zero => intro a L L' _ h; exact h
  | succ m ih =>
    intro a L L' hb h
    obtain ⟨L1, h1, h2⟩ := w_run_i h
    exact w_run_s (by rw [hb a (by omega) (by omega)]; exact h1) (ih (a + 1) L1 L' (fun j j1 j2 => hb j (by omega) (by omega)) h2)
theorem w_run_a {b : Int → Int} : ∀ (m n : Nat) (a : Int) (L L' L'' : List Int), w_run b m a L = some L' → w_run b n (a + m) L' = some L'' → w_run b (m + n) a L = some L'' := by
  intro m
  induction m with
  | zero =>
    intro n a L L' L'' h h'
    have e : L = L' := Option.some.inj h
    subst e
    have e2 : a + ((0 : Nat) : Int) = a := by omega
    rw [e2] at h'
    rw [Nat.zero_add]; exact h'
  | succ m ih =>
    intro n a L L' L'' h h'
    obtain ⟨L1, h1, h2⟩ := w_run_i h
    have e : m + 1 + n = (m + n) + 1 := by omega
    rw [e]
    have e2 : a + 1 + (m : Int) = a + ((m + 1 : Nat) : Int) := by omega
    exact w_run_s h1 (ih n (a + 1) L1 L' L'' h2 (by rw [e2]; exact h'))
/-- the words from a to e lead from the stack L to L' -/
def WS (b : Int → Int) (a e : Int) (L L' : List Int) : Prop := a ≤ e ∧ w_run b (e - a).toNat a L = some L'
theorem WS.nil {b : Int → Int} {a : Int} {L : List Int} : WS b a a L L := ⟨Int.le_refl _, by rw [show (a - a).toNat = 0 by omega]; rfl⟩
theorem WS.snoc {b : Int → Int} {a e : Int} {L L' L'' : List Int} (h : WS b a e L L') (h' : stp (b e) L' = some L'') : WS b a (e + 1) L L'' := by
  refine ⟨by have := h.1; omega, ?_⟩
  have h1 := h.1
  rw [show (e + 1 - a).toNat = (e - a).toNat + 1 by omega]
  exact w_run_n _ _ _ _ _ h.2 (by rw [show a + ((e - a).toNat : Int) = e by omega]; exact h')
theorem WS.hd {b : Int → Int} {a e : Int} {L L'' : List Int} (h : WS b a e L L'') (he : a < e) : ∃ L', stp (b a) L = some L' ∧ WS b (a + 1) e L' L'' := by
  obtain ⟨h1, h2⟩ := h
  rw [show (e - a).toNat = (e - (a + 1)).toNat + 1 by omega] at h2
  obtain ⟨L', q1, q2⟩ := w_run_i h2
  exact ⟨L', q1, by omega, q2⟩
theorem WS.fin {b : Int → Int} {a e : Int} {L L' : List Int} (h : WS b a e L L') (he : a = e) : L' = L := by
  subst he
  have h2 := h.2
  rw [show (a - a).toNat = 0 by omega] at h2
  exact (Option.some.inj h2).symm
theorem WS.cg {b b' : Int → Int} {a e : Int} {L L' : List Int} (h : WS b a e L L') (hb : ∀ j, a ≤ j → j < e → b' j = b j) : WS b' a e L L' :=
  ⟨h.1, w_run_c _ _ _ _ (fun j j1 j2 => hb j j1 (by have := h.1; omega)) h.2⟩
theorem WS.app {b : Int → Int} {a e f : Int} {L L' L'' : List Int} (h : WS b a e L L') (h' : WS b e f L' L'') : WS b a f L L'' := by
  have h1 := h.1
  have h2 := h'.1
  refine ⟨by omega, ?_⟩
  rw [show (f - a).toNat = (e - a).toNat + (f - e).toNat by omega]
  exact w_run_a _ _ _ _ _ _ h.2 (by rw [show a + ((e - a).toNat : Int) = e by omega]; exact h'.2)
/-- the stack as openKind has it -/
def OKl (ok : Int → Int) (lo : Int) : Int → List Int → Prop
  | hi, [] => hi = lo
  | hi, q :: t => lo < hi ∧ ok (hi - 1) = q ∧ OKl ok lo (hi - 1) t
theorem OKl.len {ok : Int → Int} {lo : Int} : ∀ {L : List Int} {hi : Int}, OKl ok lo hi L → (L.length : Int) = hi - lo := by
  intro L
  induction L with
  | nil => intro hi h; have h' : hi = lo := h; simp; omega
  | cons q t ih => intro hi h; obtain ⟨h1, h2, h3⟩ := h; have := ih h3; simp; omega
theorem OKl.cg {ok ok' : Int → Int} {lo : Int} : ∀ {L : List Int} {hi : Int}, OKl ok lo hi L → (∀ j, lo ≤ j → j < hi → ok' j = ok j) → OKl ok' lo hi L := by
  intro L
  induction L with
  | nil => intro hi h _; exact h
  | cons q t ih => intro hi h hb; obtain ⟨h1, h2, h3⟩ := h; exact ⟨h1, by rw [hb _ (by omega) (by omega)]; exact h2, ih h3 (fun j a b => hb j a (by omega))⟩
theorem OKl.nil {ok : Int → Int} {lo : Int} : OKl ok lo lo [] := rfl
theorem OKl.nil' {ok : Int → Int} {lo hi : Int} {L : List Int} (h : OKl ok lo hi L) (e : hi = lo) : L = [] := by
  cases L with
  | nil => rfl
  | cons q t => have := h.1; omega
theorem OKl.top {ok : Int → Int} {lo hi : Int} {L : List Int} (h : OKl ok lo hi L) (hl : lo < hi) : ∃ t, L = ok (hi - 1) :: t ∧ OKl ok lo (hi - 1) t := by
  cases L with
  | nil => have h' : hi = lo := h; omega
  | cons q t => exact ⟨t, by rw [h.2.1], h.2.2⟩
theorem OKl.push {ok ok' : Int → Int} {lo hi q : Int} {L : List Int} (h : OKl ok lo hi L) (hl : lo ≤ hi) (hq : ok' hi = q) (hb : ∀ j, j ≠ hi → ok' j = ok j) : OKl ok' lo (hi + 1) (q :: L) :=
  ⟨by omega, by rw [show hi + 1 - 1 = hi by omega]; exact hq, by rw [show hi + 1 - 1 = hi by omega]; exact h.cg (fun j a b => hb j (by omega))⟩
theorem OKl.set {ok ok' : Int → Int} {lo hi q : Int} {t : List Int} (h : OKl ok lo (hi - 1) t) (hl : lo < hi) (hq : ok' (hi - 1) = q) (hb : ∀ j, j ≠ hi - 1 → ok' j = ok j) : OKl ok' lo hi (q :: t) :=
  ⟨hl, hq, h.cg (fun j a b => hb j (by omega))⟩

/-! the nodes of words -/
def nwp (q : Int) : Prop := q = 4 ∨ q = 5 ∨ q = 6 ∨ q = 7 ∨ q = 22 ∨ q = 25
def WK (N : Int) (g : Nat → Int → Int) (q v hi : Int) : Prop := (q = 25 ∧ g 0 v = 6 ∧ g 2 v = 100000 ∧ g 7 v = 100000 ∧ g 4 v = 21 ∧ g 1 v ≤ hi ∧ ∀ m, 0 < m → m < N → g 3 m ≠ v) ∨ (q ≠ 25 ∧ g 1 v ≤ g 2 v ∧ g 2 v ≤ hi ∧ ((q = 5 ∨ q = 22) → so 14 (g 0 v)) ∧ (q ≠ 5 ∧ q ≠ 22 → so 12 (g 0 v) ∧ g 4 v = 21))
def we (g : Nat → Int → Int) (q v : Int) : Int := if q = 25 then g 1 v else g 2 v
def WDt (N : Int) (wk wn : Int → Int) (g : Nat → Int → Int) (a b n1 n2 lo hi : Int) : Prop := 0 < n1 ∧ n1 ≤ n2 ∧ n2 ≤ N ∧ 0 ≤ lo ∧ lo ≤ hi ∧ hi ≤ 9000 ∧ ∀ j, a ≤ j → j < b → nwp (wk j) → n1 ≤ wn j ∧ wn j < n2 ∧ g 3 (wn j) = 0 ∧ lo ≤ g 1 (wn j) ∧ WK N g (wk j) (wn j) hi ∧ ∀ i, j < i → i < b → nwp (wk i) → wn j < wn i ∧ we g (wk j) (wn j) ≤ g 1 (wn i)
def WD (s : rS) (k : Nat) (g : Nat → Int → Int) (a b n1 n2 lo hi : Int) : Prop := WDt (rF s k 7) (rA s 1034) (rA s 1035) g a b n1 n2 lo hi
theorem WK.wx {N q v hi : Int} {g : Nat → Int → Int} (h : WK N g q v hi) : we g q v ≤ hi ∧ g 1 v ≤ we g q v := by
  unfold we
  rcases h with h | h
  · rw [if_pos h.1]; exact ⟨h.2.2.2.2.2.1, Int.le_refl _⟩
  · rw [if_neg h.1]; exact ⟨h.2.2.1, h.2.1⟩
theorem WDt.chg {N N' n1 n2 lo hi a b : Int} {wk wn wk' wn' : Int → Int} {g g' : Nat → Int → Int} (h : WDt N wk wn g a b n1 n2 lo hi) (hN : N ≤ N') (hw : ∀ j, a ≤ j → j < b → wk' j = wk j ∧ wn' j = wn j) (hg : ∀ j m, n1 ≤ m → m < n2 → (j = 0 ∨ j = 1 ∨ j = 2 ∨ j = 3 ∨ j = 4 ∨ j = 7) → g 3 m = 0 → g' j m = g j m) (hk : ∀ m, 0 < m → m < N' → (m < N ∧ g' 3 m = g 3 m) ∨ g' 3 m < n1 ∨ n2 ≤ g' 3 m) : WDt N' wk' wn' g' a b n1 n2 lo hi := by
  obtain ⟨h1, h2, h3, h4, h5, h6, h7⟩ := h
  refine ⟨h1, h2, by omega, h4, h5, h6, fun j j1 j2 hq => ?_⟩
  rw [(hw j j1 j2).1] at hq ⊢
  rw [(hw j j1 j2).2]
  obtain ⟨q1, q2, q3, q4, q5, q6⟩ := h7 j j1 j2 hq
  have e := fun i hi => hg i (wn j) q1 q2 hi q3
  have e0 := e 0 (by omega); have e1 := e 1 (by omega); have e2 := e 2 (by omega); have e3 := e 3 (by omega); have e4 := e 4 (by omega); have e7 := e 7 (by omega)
  refine ⟨q1, q2, by rw [e3]; exact q3, by rw [e1]; exact q4, ?_, fun i i1 i2 hqi => ?_⟩
  · unfold WK at *
    rw [e0, e1, e2, e4, e7]
    rcases q5 with q | q
    · refine Or.inl ⟨q.1, q.2.1, q.2.2.1, q.2.2.2.1, q.2.2.2.2.1, q.2.2.2.2.2.1, fun m m0 m1 => ?_⟩
      rcases hk m m0 m1 with w | w
      · rw [w.2]; exact q.2.2.2.2.2.2 m m0 w.1
      · omega
    · exact Or.inr q
  · have w := hw i (by omega) i2
    rw [w.1] at hqi
    rw [w.2]
    obtain ⟨r1, r2⟩ := q6 i i1 i2 hqi
    obtain ⟨s1, s2, s3, s4, s5, s6⟩ := h7 i (by omega) i2 hqi
    refine ⟨r1, ?_⟩
    rw [hg 1 (wn i) s1 s2 (by omega) s3]
    unfold we at *; rw [e1, e2]; exact r2
theorem WD.gk {s t : rS} {k : Nat} {g g' : Nat → Int → Int} {a b n1 n2 lo hi c c' : Int} (h : WD s k g a b n1 n2 lo hi) (R : RG s t k c') (K : GK g g' (rF s k 7) (rF t k 7) c) (hb : b ≤ rF s 0 38) (hc : c = 0 ∨ c < n1 ∨ n2 ≤ c) : WD t k g' a b n1 n2 lo hi := by
  obtain ⟨K1, K2, K3⟩ := K
  have n2N := h.2.2.1
  have n10 := h.1
  refine WDt.chg h K1 (fun j _ j2 => R.2.2.2.2.1 j (by omega)) (fun j m m1 m2 hj _ => K2 j m (by omega) (by omega)) (fun m m0 m1 => ?_)
  by_cases hm : m < rF s k 7
  · exact Or.inl ⟨hm, K2 3 m hm (by omega)⟩
  · right; have := K3 m (by omega) m1; omega
theorem WD.kv {s t : rS} {k : Nat} {g g' : Nat → Int → Int} {a b n1 n2 lo hi v : Int} (h : WD s k g a b n1 n2 lo hi) (R : RG s t k 0) (K : KV g g' (rF s k 7) (rF t k 7) v) (hb : b ≤ rF s 0 38) (hv : v < n1 ∨ n2 ≤ v) : WD t k g' a b n1 n2 lo hi := by
  obtain ⟨K1, K2, K3, K4, K5⟩ := K
  have n2N := h.2.2.1
  have n10 := h.1
  refine WDt.chg h K1 (fun j _ j2 => R.2.2.2.2.1 j (by omega)) (fun j m m1 m2 hj _ => K3 j m (by omega) (by omega)) (fun m m0 m1 => ?_)
  by_cases hm : m < rF s k 7
  · by_cases hv' : m = v
    · subst hv'; right; right; omega
    · exact Or.inl ⟨hm, K3 3 m hm hv'⟩
  · right; have := K4 m (by omega) m1; omega
theorem WD.st {s : rS} {k f : Nat} {g : Nat → Int → Int} {a b n1 n2 lo hi i x : Int} (hk : rgk k) (h : WD s k g a b n1 n2 lo hi) : WD (sT s k f i x) k g a b n1 n2 lo hi := by
  unfold WD
  exact WDt.chg h (Int.le_refl _) (fun j _ _ => ⟨rA_sT34 hk, rA_sT35 hk⟩) (fun _ _ _ _ _ _ => rfl) (fun m _ m1 => Or.inl ⟨m1, rfl⟩)
theorem WD.ks {s : rS} {k f K : Nat} {g g' : Nat → Int → Int} {a b n1 n2 lo hi it v : Int} (h : WD s k g a b n1 n2 lo hi) (S : KS g g' it v f K) (hv : v < n1 ∨ n2 ≤ v) (hi' : it < n1 ∨ n2 ≤ it) : WD s k g' a b n1 n2 lo hi := by
  obtain ⟨a1, a2, a3, a4, a5, a6, a7, a8⟩ := S
  refine WDt.chg h (Int.le_refl _) (fun _ _ _ => ⟨rfl, rfl⟩) (fun j m m1 m2 hj _ => a1 j m (by omega) (by omega)) (fun m m0 m1 => ?_)
  by_cases hm : m = v
  · subst hm; rw [a4]; omega
  · by_cases hm2 : m = it
    · subst hm2; exact Or.inl ⟨m1, a3 3 (by decide) (by decide)⟩
    · exact Or.inl ⟨m1, a1 3 m hm hm2⟩
theorem WD.kc {s : rS} {k : Nat} {g g' : Nat → Int → Int} {a b n1 n2 lo hi it : Int} (h : WD s k g a b n1 n2 lo hi) (S : KC g g' it) (hi' : it < n1 ∨ n2 ≤ it) : WD s k g' a b n1 n2 lo hi :=
  WDt.chg h (Int.le_refl _) (fun _ _ _ => ⟨rfl, rfl⟩) (fun j m m1 m2 hj _ => S.2 j m (Or.inl (by omega))) (fun m m0 m1 => Or.inl ⟨m1, S.2 3 m (Or.inr (by decide))⟩)
theorem WD.cst {s : rS} {k : Nat} {g : Nat → Int → Int} {a b n1 n2 lo hi n1' n2' lo' hi' : Int} (h : WD s k g a b n1 n2 lo hi) (h1 : 0 < n1' ∧ n1' ≤ n1 := by omega) (h2 : n2 ≤ n2' ∧ n2' ≤ rF s k 7 := by omega) (h3 : 0 ≤ lo' ∧ lo' ≤ lo := by omega) (h4 : hi ≤ hi' ∧ hi' ≤ 9000 := by omega) : WD s k g a b n1' n2' lo' hi' := by
  obtain ⟨a1, a2, a3, a4, a5, a6, a7⟩ := h
  refine ⟨h1.1, by omega, h2.2, h3.1, by omega, h4.2, fun j j1 j2 hq => ?_⟩
  obtain ⟨q1, q2, q3, q4, q5, q6⟩ := a7 j j1 j2 hq
  refine ⟨by omega, by omega, q3, by omega, ?_, q6⟩
  unfold WK at *
  rcases q5 with q | q
  · exact Or.inl ⟨q.1, q.2.1, q.2.2.1, q.2.2.2.1, q.2.2.2.2.1, by have := q.2.2.2.2.2.1; omega, q.2.2.2.2.2.2⟩
  · exact Or.inr ⟨q.1, q.2.1, by have := q.2.2.1; omega, q.2.2.2⟩
theorem WD.nil {s : rS} {k : Nat} {g : Nat → Int → Int} {a n1 n2 lo hi : Int} (h : 0 < n1 ∧ n1 ≤ n2 ∧ n2 ≤ rF s k 7 ∧ 0 ≤ lo ∧ lo ≤ hi ∧ hi ≤ 9000) : WD s k g a a n1 n2 lo hi := ⟨h.1, h.2.1, h.2.2.1, h.2.2.2.1, h.2.2.2.2.1, h.2.2.2.2.2, fun j j1 j2 => absurd j1 (by omega)⟩
theorem WD.app {s : rS} {k : Nat} {g : Nat → Int → Int} {a b c n1 n2 n2' n3 lo hi lo' hi' : Int} (h : WD s k g a b n1 n2 lo hi) (h' : WD s k g b c n2' n3 lo' hi') (hn : n2 ≤ n2' := by omega) (hl : hi ≤ lo' := by omega) : WD s k g a c n1 n3 lo hi' := by
  obtain ⟨a1, a2, a3, a4, a5, a6, a7⟩ := h
  obtain ⟨b1, b2, b3, b4, b5, b6, b7⟩ := h'
  refine ⟨a1, by omega, b3, a4, by omega, b6, fun j j1 j2 hq => ?_⟩
  by_cases hj : j < b
  · obtain ⟨q1, q2, q3, q4, q5, q6⟩ := a7 j j1 hj hq
    refine ⟨q1, by omega, q3, q4, ?_, fun i i1 i2 hqi => ?_⟩
    · unfold WK at *
      rcases q5 with q | q
      · exact Or.inl ⟨q.1, q.2.1, q.2.2.1, q.2.2.2.1, q.2.2.2.2.1, by have := q.2.2.2.2.2.1; omega, q.2.2.2.2.2.2⟩
      · exact Or.inr ⟨q.1, q.2.1, by have := q.2.2.1; omega, q.2.2.2⟩
    · by_cases hi2 : i < b
      · exact q6 i i1 hi2 hqi
      · obtain ⟨r1, r2, r3, r4, r5, r6⟩ := b7 i (by omega) i2 hqi
        have := q5.wx.1
        exact ⟨by omega, by omega⟩
  · obtain ⟨q1, q2, q3, q4, q5, q6⟩ := b7 j (by omega) j2 hq
    exact ⟨by omega, q2, q3, by omega, q5, q6⟩
theorem WD.non {s : rS} {k : Nat} {g : Nat → Int → Int} {a n1 n2 lo hi : Int} (hq : ¬ nwp (rA s 1034 a)) (h : 0 < n1 ∧ n1 ≤ n2 ∧ n2 ≤ rF s k 7 ∧ 0 ≤ lo ∧ lo ≤ hi ∧ hi ≤ 9000) : WD s k g a (a + 1) n1 n2 lo hi := ⟨h.1, h.2.1, h.2.2.1, h.2.2.2.1, h.2.2.2.2.1, h.2.2.2.2.2, fun j j1 j2 q => by
  have e : j = a := by omega
  subst e; exact absurd q hq⟩
theorem WD.w4 {s : rS} {k : Nat} {g : Nat → Int → Int} {a q v n0 lo hi : Int} (G : GS s k g) (V : NR s k g 12 v n0 lo hi 21) (hv : rA s 1035 a = v) (hk : rA s 1034 a = q) (hq : q = 4 ∨ q = 6 ∨ q = 7) (h0 : 0 < n0) (hl : 0 ≤ lo) : WD s k g a (a + 1) n0 (rF s k 7) lo hi := by
  obtain ⟨v1, v2, v3, v4, v5, v6, v7, v8, v9⟩ := V
  have b := gS.be (G.1 v v2 v3).1
  refine ⟨h0, by omega, Int.le_refl _, hl, by omega, v8, fun j j1 j2 hq' => ?_⟩
  have e : j = a := by omega
  subst e
  rw [hk, hv]
  exact ⟨v1, v3, v4, v6, Or.inr ⟨by omega, b, v7, fun h => absurd h (by omega), fun _ => ⟨v5, v9⟩⟩, fun i i1 i2 => absurd i1 (by omega)⟩
theorem WD.w5 {s : rS} {k : Nat} {g : Nat → Int → Int} {a q v n0 lo hi d : Int} (G : GS s k g) (V : NR s k g 14 v n0 lo hi d) (hv : rA s 1035 a = v) (hk : rA s 1034 a = q) (hq : q = 5 ∨ q = 22) (h0 : 0 < n0) (hl : 0 ≤ lo) : WD s k g a (a + 1) n0 (rF s k 7) lo hi := by
  obtain ⟨v1, v2, v3, v4, v5, v6, v7, v8, v9⟩ := V
  have b := gS.be (G.1 v v2 v3).1
  refine ⟨h0, by omega, Int.le_refl _, hl, by omega, v8, fun j j1 j2 hq' => ?_⟩
  have e : j = a := by omega
  subst e
  rw [hk, hv]
  exact ⟨v1, v3, v4, v6, Or.inr ⟨by omega, b, v7, fun _ => v5, fun h => absurd h (by omega)⟩, fun i i1 i2 => absurd i1 (by omega)⟩
theorem WD.w25 {s : rS} {k : Nat} {g : Nat → Int → Int} {a v lo hi x n0 : Int} (G : GS s k g) (O : OP s k g v 6 21 lo x hi 0) (hx : x < 0) (hv : rA s 1035 a = v) (hk : rA s 1034 a = 25) (h0 : 0 < n0 ∧ n0 ≤ v) (hl : 0 ≤ lo) : WD s k g a (a + 1) n0 (rF s k 7) lo hi := by
  obtain ⟨o1, o2, o3, o4, o5, o6, o7, o8, o9, o10, o11, o12, o13, o14⟩ := O
  refine ⟨h0.1, by omega, Int.le_refl _, hl, by omega, o13, fun j j1 j2 hq' => ?_⟩
  have e : j = a := by omega
  subst e
  rw [hk, hv]
  refine ⟨h0.2, o2, o4, o7, Or.inl ⟨rfl, o3, o5, o10 rfl, o6, o8, fun m m0 m1 e => ?_⟩, fun i i1 i2 => absurd i1 (by omega)⟩
  have := o14 m m0 m1 e
  have s1 := (G.1 m m0 m1).1
  have := gS.b0 s1
  have := gS.be s1
  omega
theorem WD.h0 {s : rS} {k : Nat} {g : Nat → Int → Int} {a b n1 n2 lo hi : Int} (h : WD s k g a b n1 n2 lo hi) : WD s k g (a + 1) b n1 n2 lo hi := ⟨h.1, h.2.1, h.2.2.1, h.2.2.2.1, h.2.2.2.2.1, h.2.2.2.2.2.1, fun j j1 j2 => h.2.2.2.2.2.2 j (by omega) j2⟩
theorem WD.hx {s : rS} {k : Nat} {g : Nat → Int → Int} {a b n1 n2 lo hi : Int} (h : WD s k g a b n1 n2 lo hi) (hb : a < b) (hq : nwp (rA s 1034 a)) : WD s k g (a + 1) b (rA s 1035 a + 1) n2 (we g (rA s 1034 a) (rA s 1035 a)) hi := by
  obtain ⟨a1, a2, a3, a4, a5, a6, a7⟩ := h
  obtain ⟨q1, q2, q3, q4, q5, q6⟩ := a7 a (Int.le_refl _) hb hq
  have w := q5.wx
  refine ⟨by omega, by omega, a3, by omega, w.1, a6, fun j j1 j2 hqj => ?_⟩
  obtain ⟨r1, r2, r3, r4, r5, r6⟩ := a7 j (by omega) j2 hqj
  have := q6 j (by omega) j2 hqj
  exact ⟨by omega, r2, r3, this.2, r5, r6⟩
theorem WD.h4 {s : rS} {k : Nat} {g : Nat → Int → Int} {a b n1 n2 lo hi q : Int} (h : WD s k g a b n1 n2 lo hi) (hb : a < b) (hk : rA s 1034 a = q) (hq : q = 4 ∨ q = 6 ∨ q = 7) : NR s k g 12 (rA s 1035 a) (rA s 1035 a) lo (g 2 (rA s 1035 a)) 21 ∧ WD s k g (a + 1) b (rA s 1035 a + 1) n2 (g 2 (rA s 1035 a)) hi ∧ n1 ≤ rA s 1035 a ∧ rA s 1035 a < n2 ∧ lo ≤ g 2 (rA s 1035 a) := by
  have hn : nwp (rA s 1034 a) := by unfold nwp; omega
  have x := h.hx hb hn
  obtain ⟨a1, a2, a3, a4, a5, a6, a7⟩ := h
  obtain ⟨q1, q2, q3, q4, q5, q6⟩ := a7 a (Int.le_refl _) hb hn
  have e : we g (rA s 1034 a) (rA s 1035 a) = g 2 (rA s 1035 a) := if_neg (by omega)
  rw [e] at x
  rcases q5 with w | w
  · exact absurd w.1 (by omega)
  · have w5 := w.2.2.2.2 (by omega)
    exact ⟨⟨Int.le_refl _, by omega, by omega, q3, w5.1, q4, Int.le_refl _, by omega, w5.2⟩, x, q1, q2, by omega⟩
theorem WD.h5 {s : rS} {k : Nat} {g : Nat → Int → Int} {a b n1 n2 lo hi q : Int} (h : WD s k g a b n1 n2 lo hi) (hb : a < b) (hk : rA s 1034 a = q) (hq : q = 5 ∨ q = 22) : NR s k g 14 (rA s 1035 a) (rA s 1035 a) lo (g 2 (rA s 1035 a)) (g 4 (rA s 1035 a)) ∧ WD s k g (a + 1) b (rA s 1035 a + 1) n2 (g 2 (rA s 1035 a)) hi ∧ n1 ≤ rA s 1035 a ∧ rA s 1035 a < n2 ∧ lo ≤ g 2 (rA s 1035 a) := by
  have hn : nwp (rA s 1034 a) := by unfold nwp; omega
  have x := h.hx hb hn
  obtain ⟨a1, a2, a3, a4, a5, a6, a7⟩ := h
  obtain ⟨q1, q2, q3, q4, q5, q6⟩ := a7 a (Int.le_refl _) hb hn
  have e : we g (rA s 1034 a) (rA s 1035 a) = g 2 (rA s 1035 a) := if_neg (by omega)
  rw [e] at x
  rcases q5 with w | w
  · exact absurd w.1 (by omega)
  · exact ⟨⟨Int.le_refl _, by omega, by omega, q3, w.2.2.2.1 (by omega), q4, Int.le_refl _, by omega, rfl⟩, x, q1, q2, by omega⟩
theorem WD.h25 {s : rS} {k : Nat} {g : Nat → Int → Int} {a b n1 n2 lo hi : Int} (h : WD s k g a b n1 n2 lo hi) (hb : a < b) (hk : rA s 1034 a = 25) : OP s k g (rA s 1035 a) 6 21 lo (-1) (g 1 (rA s 1035 a)) 0 ∧ WD s k g (a + 1) b (rA s 1035 a + 1) n2 (g 1 (rA s 1035 a)) hi ∧ n1 ≤ rA s 1035 a ∧ rA s 1035 a < n2 ∧ lo ≤ g 1 (rA s 1035 a) := by
  have hn : nwp (rA s 1034 a) := by unfold nwp; omega
  have x := h.hx hb hn
  obtain ⟨a1, a2, a3, a4, a5, a6, a7⟩ := h
  obtain ⟨q1, q2, q3, q4, q5, q6⟩ := a7 a (Int.le_refl _) hb hn
  have e : we g (rA s 1034 a) (rA s 1035 a) = g 1 (rA s 1035 a) := if_pos hk
  rw [e] at x
  rcases q5 with w | w
  · refine ⟨⟨by omega, by omega, w.2.1, q3, w.2.2.1, w.2.2.2.2.1, q4, Int.le_refl _, q4, fun _ => w.2.2.2.1, Or.inl w.2.2.2.1, by omega, by omega, fun m m0 m1 e => absurd e (w.2.2.2.2.2.2 m m0 m1)⟩, x, q1, q2, q4⟩
  · exact absurd hk w.1

/-! what build and element leave: nodes from n1 to n1' were words' own, and may hang by now -/
def BK (s t : rS) (k : Nat) (g h : Nat → Int → Int) (n1 n1' : Int) : Prop := rF s k 7 ≤ rF t k 7 ∧ 0 < n1 ∧ n1 ≤ n1' ∧ n1' ≤ rF s k 7 ∧ (∀ f i, f < 6 → i < rF s k 7 → (i < n1 ∨ n1' ≤ i) → tr t k f i = tr s k f i) ∧ (∀ j m, m < rF s k 7 → (m < n1 ∨ n1' ≤ m) → h j m = g j m) ∧ (∀ m, n1 ≤ m → m < n1' → h 3 m = 0 ∨ rF s k 7 ≤ h 3 m ∨ (h 3 m = g 3 m ∧ h 2 m = g 2 m)) ∧ (∀ m, rF s k 7 ≤ m → m < rF t k 7 → h 3 m = 0 ∨ rF s k 7 ≤ h 3 m ∨ h 3 m ≤ -(rF s k 7) ∨ (n1 ≤ h 3 m ∧ h 3 m < n1'))
theorem BK.rf {s : rS} {k : Nat} {g : Nat → Int → Int} {n1 : Int} (h0 : 0 < n1) (h1 : n1 ≤ rF s k 7) : BK s s k g g n1 n1 := ⟨Int.le_refl _, h0, Int.le_refl _, h1, fun _ _ _ _ _ => rfl, fun _ _ _ _ => rfl, fun m m1 m2 => absurd m1 (by omega), fun m m1 m2 => absurd m1 (by omega)⟩
theorem BK.trans {s t u : rS} {k : Nat} {g h h' : Nat → Int → Int} {n1 n1' n1'' : Int} (B : BK s t k g h n1 n1') (B' : BK t u k h h' n1' n1'') (hn : n1'' ≤ rF s k 7) : BK s u k g h' n1 n1'' := by
  obtain ⟨a1, a2, a3, a4, a5, a6, a7, a8⟩ := B
  obtain ⟨b1, b2, b3, b4, b5, b6, b7, b8⟩ := B'
  refine ⟨by omega, a2, by omega, hn, fun f i hf hi hn => (b5 f i hf (by omega) (by omega)).trans (a5 f i hf hi (by omega)), fun j m hm hn => (b6 j m (by omega) (by omega)).trans (a6 j m hm (by omega)), fun m m1 m2 => ?_, fun m m1 m2 => ?_⟩
  · by_cases hm : m < n1'
    · rw [b6 3 m (by omega) (Or.inl hm), b6 2 m (by omega) (Or.inl hm)]; exact a7 m m1 hm
    · have e3 := a6 3 m (by omega) (by omega)
      have e2 := a6 2 m (by omega) (by omega)
      have := b7 m (by omega) m2
      rw [e3, e2] at this
      omega
  · by_cases hm : m < rF t k 7
    · rw [b6 3 m hm (Or.inr (by omega))]
      have := a8 m m1 hm; omega
    · have := b8 m (by omega) m2; omega
theorem BK.adv {s t : rS} {k : Nat} {g h : Nat → Int → Int} {n1 n1' n1'' : Int} (B : BK s t k g h n1 n1') (h1 : n1' ≤ n1'') (h2 : n1'' ≤ rF s k 7) : BK s t k g h n1 n1'' := by
  obtain ⟨a1, a2, a3, a4, a5, a6, a7, a8⟩ := B
  refine ⟨a1, a2, by omega, h2, fun f i hf hi hn => a5 f i hf hi (by omega), fun j m hm hn => a6 j m hm (by omega), fun m m1 m2 => ?_, fun m m1 m2 => by have := a8 m m1 m2; omega⟩
  by_cases hm : m < n1'
  · exact a7 m m1 hm
  · exact Or.inr (Or.inr ⟨a6 3 m (by omega) (by omega), a6 2 m (by omega) (by omega)⟩)
theorem BK.new {s t u : rS} {k : Nat} {g h h' : Nat → Int → Int} {n1 n1' : Int} (hk : rgk k) (B : BK s t k g h n1 n1') (K : GK h h' (rF t k 7) (rF u k 7) 0) (R : RG t u k 0) : BK s u k g h' n1 n1' := by
  obtain ⟨a1, a2, a3, a4, a5, a6, a7, a8⟩ := B
  obtain ⟨K1, K2, K3⟩ := K
  have e := fun j m (hm : m < rF t k 7) => K2 j m hm (Or.inr (Or.inr rfl))
  refine ⟨by omega, a2, a3, a4, fun f i hf hi hn => (RG.f hk R hf (by omega) (Or.inr (Or.inl rfl))).trans (a5 f i hf hi hn), fun j m hm hn => (e j m (by omega)).trans (a6 j m hm hn), fun m m1 m2 => ?_, fun m m1 m2 => ?_⟩
  · rw [e 3 m (by omega), e 2 m (by omega)]; exact a7 m m1 m2
  · by_cases hm : m < rF t k 7
    · rw [e 3 m hm]; exact a8 m m1 hm
    · have := K3 m (by omega) m2; omega
theorem BK.kv {s t u : rS} {k : Nat} {g h h' : Nat → Int → Int} {n1 n1' v : Int} (hk : rgk k) (B : BK s t k g h n1 n1') (K : KV h h' (rF t k 7) (rF u k 7) v) (R : RG t u k 0) (hv : n1 ≤ v ∧ v < n1' ∨ rF s k 7 ≤ v) : BK s u k g h' n1 n1' := by
  obtain ⟨a1, a2, a3, a4, a5, a6, a7, a8⟩ := B
  obtain ⟨K1, K2, K3, K4, K5⟩ := K
  refine ⟨by omega, a2, a3, a4, fun f i hf hi hn => (RG.f hk R hf (by omega) (Or.inr (Or.inl rfl))).trans (a5 f i hf hi hn), fun j m hm hn => (K3 j m (by omega) (by omega)).trans (a6 j m hm hn), fun m m1 m2 => ?_, fun m m1 m2 => ?_⟩
  · by_cases hm : m = v
    · subst hm; right; left; omega
    · rw [K3 3 m (by omega) hm, K3 2 m (by omega) hm]; exact a7 m m1 m2
  · by_cases hm : m < rF t k 7
    · by_cases hmv : m = v
      · subst hmv; right; left; omega
      · rw [K3 3 m hm hmv]; exact a8 m m1 hm
    · have := K4 m (by omega) m2; omega
theorem BK.st {s t : rS} {k f : Nat} {g h : Nat → Int → Int} {n1 n1' i x : Int} (hk : rgk k) (hf : f < 6) (B : BK s t k g h n1 n1') (hi : n1 ≤ i ∧ i < n1' ∨ rF s k 7 ≤ i) : BK s (sT t k f i x) k g h n1 n1' := by
  obtain ⟨a1, a2, a3, a4, a5, a6, a7, a8⟩ := B
  exact ⟨a1, a2, a3, a4, fun f' j hf' hj hn => by rw [tr_sT hk hf, if_neg (by omega)]; exact a5 f' j hf' hj hn, a6, a7, a8⟩
theorem BK.ks {s t : rS} {k f K : Nat} {g h h' : Nat → Int → Int} {n1 n1' it v : Int} (B : BK s t k g h n1 n1') (S : KS h h' it v f K) (hv : n1 ≤ v ∧ v < n1' ∧ rF s k 7 ≤ it ∨ rF s k 7 ≤ v) (hi : n1 ≤ it ∧ it < n1' ∨ rF s k 7 ≤ it) : BK s t k g h' n1 n1' := by
  obtain ⟨a1, a2, a3, a4, a5, a6, a7, a8⟩ := B
  obtain ⟨S1, S2, S3, S4, S5, S6, S7, S8⟩ := S
  refine ⟨a1, a2, a3, a4, a5, fun j m hm hn => (S1 j m (by omega) (by omega)).trans (a6 j m hm hn), fun m m1 m2 => ?_, fun m m1 m2 => ?_⟩
  · by_cases hm : m = v
    · subst hm; rw [S4]; omega
    · by_cases hm2 : m = it
      · subst hm2; rw [S3 3 (by decide) (by decide), S3 2 (by decide) (by decide)]; exact a7 m m1 m2
      · rw [S1 3 m hm hm2, S1 2 m hm hm2]; exact a7 m m1 m2
  · by_cases hm : m = v
    · subst hm; rw [S4]; omega
    · by_cases hm2 : m = it
      · subst hm2; rw [S3 3 (by decide) (by decide)]; exact a8 m m1 m2
      · rw [S1 3 m hm hm2]; exact a8 m m1 m2
theorem BK.kc {s t : rS} {k : Nat} {g h h' : Nat → Int → Int} {n1 n1' it : Int} (B : BK s t k g h n1 n1') (S : KC h h' it) (hi : n1 ≤ it ∧ it < n1' ∨ rF s k 7 ≤ it) : BK s t k g h' n1 n1' := by
  obtain ⟨a1, a2, a3, a4, a5, a6, a7, a8⟩ := B
  obtain ⟨S0, S1⟩ := S
  refine ⟨a1, a2, a3, a4, a5, fun j m hm hn => (S1 j m (Or.inl (by omega))).trans (a6 j m hm hn), fun m m1 m2 => ?_, fun m m1 m2 => ?_⟩
  · rw [S1 3 m (Or.inr (by decide))]
    by_cases hm : m = it
    · subst hm; exact Or.inl S0
    · rw [S1 2 m (Or.inl hm)]; exact a7 m m1 m2
  · rw [S1 3 m (Or.inr (by decide))]; exact a8 m m1 m2
theorem OP.bk {s t : rS} {k K : Nat} {g h : Nat → Int → Int} {n1 n1' it d lo x y e : Int} (O : OP s k g it K d lo x y e) (B : BK s t k g h n1 n1') (hi : it < n1 ∨ n1' ≤ it) : OP t k h it K d lo x y e := by
  obtain ⟨o1, o2, o3, o4, o5, o6, o7, o8, o9, o10, o11, o12, o13, o14⟩ := O
  obtain ⟨a1, a2, a3, a4, a5, a6, a7, a8⟩ := B
  have e1 := fun j => a6 j it o2 hi
  refine ⟨o1, by omega, by rw [e1]; exact o3, by rw [e1]; exact o4, by rw [e1]; exact o5, by rw [e1]; exact o6, by rw [e1]; exact o7, by rw [e1]; exact o8, o9, by rw [e1]; exact o10, by rw [e1]; exact o11, o12, o13, fun m h0 h1 h3 => ?_⟩
  by_cases hm : m < rF s k 7
  · by_cases hr : m < n1 ∨ n1' ≤ m
    · rw [a6 3 m hm hr] at h3; rw [a6 2 m hm hr]; exact o14 m h0 hm h3
    · rcases a7 m (by omega) (by omega) with q | q | q
      · omega
      · omega
      · rw [q.1] at h3; rw [q.2]; exact o14 m h0 hm h3
  · have := a8 m (by omega) h1; omega
theorem NR.bk {s t : rS} {k S : Nat} {g h : Nat → Int → Int} {n1 n1' v n0 lo hi d : Int} (V : NR s k g S v n0 lo hi d) (B : BK s t k g h n1 n1') (hv : v < n1 ∨ n1' ≤ v) : NR t k h S v n0 lo hi d := by
  obtain ⟨v1, v2, v3, v4, v5, v6, v7, v8, v9⟩ := V
  obtain ⟨a1, a2, a3, a4, a5, a6, a7, a8⟩ := B
  have e1 := fun j => a6 j v v3 hv
  exact ⟨v1, v2, by omega, by rw [e1]; exact v4, by rw [e1]; exact v5, by rw [e1]; exact v6, by rw [e1]; exact v7, v8, by rw [e1]; exact v9⟩
theorem LI.bk {s t : rS} {k f K : Nat} {g h : Nat → Int → Int} {n1 n1' it l : Int} (hc : cn f K = false) (L : LI s k g it f K l) (B : BK s t k g h n1 n1') (hl : l < n1 ∨ n1' ≤ l) : LI t k h it f K l := by
  obtain ⟨a1, a2, a3, a4, a5, a6, a7, a8⟩ := B
  rcases L with ⟨l1, l2⟩ | ⟨l1, l2, l3, l4, l5, l6⟩
  · exact Or.inl ⟨l1, fun q => absurd q (by rw [hc]; decide)⟩
  · exact Or.inr ⟨l1, by omega, by rw [a6 3 l l2 hl]; exact l3, by rw [a6 8 l l2 hl]; exact l4, by rw [a5 5 l (by decide) l2 hl]; exact l5, fun q => absurd q (by rw [hc]; decide)⟩

