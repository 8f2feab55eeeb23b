theorem t_zof {v : Value} (h : tZ v) : ∃ x : Int32, v = .int x ∧ tZ (.int x) := by
  rcases h with rfl | rfl
  · exact ⟨0, rfl, Or.inl rfl⟩
  · exact ⟨1, rfl, Or.inr rfl⟩
theorem t_nZ {x : Int32} (h : tZ (.int x)) : narrow .boolean (.int x) = .int x := by
  rcases h with h | h <;> cases h <;> rfl
theorem t_fZ {x : Int32} (h : tZ (.int x)) : fits .boolean (.int x) = true := by
  rcases h with h | h <;> cases h <;> rfl
abbrev uPz (W : Nat) : va_W → tPi := fun ws r c n w => c = 0 ∧ n = 0 ∧ tKeep W ws w ∧ tZ (.int r)
theorem t_lec {x c : Int32} (h : x ≤ c) (hc : c < 2147483647) : x < 2147483647 := by
  rw [Int32.le_iff_toInt_le] at h
  rw [Int32.lt_iff_toInt_lt] at hc ⊢
  omega
theorem t_sub {E : String} {A B : List String} (h : A.all (fun x => B.contains x) = true) (hE : E ∈ A) : E ∈ B := by
  have := List.all_eq_true.mp h E hE
  simpa using this
theorem t_nnI {x y : Int32} (h : ¬ x < 0) (hl : x < y) : ¬ (x + 1) < 0 := by
  have e := t_inc hl
  rw [Int32.lt_iff_toInt_lt] at h ⊢
  have e0 : (0 : Int32).toInt = 0 := by decide
  omega
theorem t_dzero {x : Int32} (h : (x.toInt + 1).toNat ≤ 0) : ¬ 0 ≤ x := by
  rw [Int32.le_iff_toInt_le]
  have e0 : (0 : Int32).toInt = 0 := by decide
  omega
theorem t_ne0 {x : Int32} (h : 0 < x) : ¬ x = 0 := by
  rintro rfl
  exact absurd h (by decide)
theorem t_zr {x : Int32} (h : tZ (.int x)) : 0 ≤ x.toInt ∧ x.toInt ≤ 1 := by
  rcases h with h | h <;> cases h <;> decide
theorem t_fl {a b : Int32} (h : a < b) : a.toInt < b.toInt := Int32.lt_iff_toInt_lt.mp h
theorem t_fnl {a b : Int32} (h : ¬ a < b) : b.toInt ≤ a.toInt := Int.not_lt.mp fun q => h (Int32.lt_iff_toInt_lt.mpr q)
theorem t_fe {a b : Int32} (h : a ≤ b) : a.toInt ≤ b.toInt := Int32.le_iff_toInt_le.mp h
theorem t_fne {a b : Int32} (h : ¬ a ≤ b) : b.toInt < a.toInt := Int.not_le.mp fun q => h (Int32.le_iff_toInt_le.mpr q)
theorem t_feq {a b : Int32} (h : a = b) : a.toInt = b.toInt := congrArg _ h
theorem t_nlt0 {x : Int32} (h : 0 ≤ x.toInt) : ¬ x < 0 := fun q => by
  have := Int32.lt_iff_toInt_lt.mp q
  have e0 : (0 : Int32).toInt = 0 := by decide
  omega
theorem t_nltI {x y : Int32} (h : y.toInt ≤ x.toInt) : ¬ x < y := fun q => by
  have := Int32.lt_iff_toInt_lt.mp q
  omega
theorem t_ltI {x y : Int32} (h : x.toInt < y.toInt) : x < y := Int32.lt_iff_toInt_lt.mpr h
theorem t_irr (x : Int32) : ¬ x < x := t_nltI (Int.le_refl _)
theorem t_nnN {N : Nat} (h : N < 2 ^ 31) : ¬ Int32.ofNat N < 0 := t_nlt0 (by
  have : (Int32.ofNat N).toInt = N := nI_toInt h
  omega)
theorem t_bm (z : Int) (h1 : -4294967296 ≤ z) (h2 : z < 4294967296) : -2147483648 ≤ z.bmod 4294967296 ∧ z.bmod 4294967296 < 2147483648 ∧ (z.bmod 4294967296 = z ∨ z.bmod 4294967296 = z - 4294967296 ∨ z.bmod 4294967296 = z + 4294967296) := by
  rw [Int.bmod_def]
  split <;> omega
theorem t_addO (a b : Int32) : -2147483648 ≤ (a + b).toInt ∧ (a + b).toInt < 2147483648 ∧ ((a + b).toInt = a.toInt + b.toInt ∨ (a + b).toInt = a.toInt + b.toInt - 4294967296 ∨ (a + b).toInt = a.toInt + b.toInt + 4294967296) := by
  have h1 := a.le_toInt
  have h2 := a.toInt_lt
  have h3 := b.le_toInt
  have h4 := b.toInt_lt
  rw [Int32.toInt_add]
  exact t_bm _ (by omega) (by omega)
theorem t_subO (a b : Int32) : -2147483648 ≤ (a - b).toInt ∧ (a - b).toInt < 2147483648 ∧ ((a - b).toInt = a.toInt - b.toInt ∨ (a - b).toInt = a.toInt - b.toInt - 4294967296 ∨ (a - b).toInt = a.toInt - b.toInt + 4294967296) := by
  have h1 := a.le_toInt
  have h2 := a.toInt_lt
  have h3 := b.le_toInt
  have h4 := b.toInt_lt
  rw [Int32.toInt_sub]
  exact t_bm _ (by omega) (by omega)
theorem t_mulO (c x : Int32) (n : Int) (hc : c.toInt = n) : ∃ k : Int, -2147483648 ≤ (c * x).toInt ∧ (c * x).toInt < 2147483648 ∧ (c * x).toInt = n * x.toInt + 4294967296 * k := by
  have h1 := (c * x).le_toInt
  have h2 := (c * x).toInt_lt
  refine ⟨-((c.toInt * x.toInt + 2147483648) / 4294967296), by omega, by omega, ?_⟩
  rw [Int32.toInt_mul, Int.bmod_def, ← hc]
  split <;> omega
theorem t_mulP (x c : Int32) (n : Int) (hc : c.toInt = n) : ∃ k : Int, -2147483648 ≤ (x * c).toInt ∧ (x * c).toInt < 2147483648 ∧ (x * c).toInt = n * x.toInt + 4294967296 * k := by
  rw [Int32.mul_comm]
  exact t_mulO c x n hc
theorem t_fldI {T : tT} {ws : va_W} {a ci : Nat} {ts : List (Value → Prop)} (hw : tW T ws) (hq : tHas T a (tO ci ts)) {f : Nat} (ht : ts[f]? = some tI) : ∃ x : Int32, tF ci ws a f (.int x) := by
  obtain ⟨q, hq⟩ := hq
  obtain ⟨e, he, fs, rfl, -, hts⟩ := hw.cell hq
  obtain ⟨v, hv, x, rfl⟩ := hts f tI ht
  exact ⟨x, q, fs, he, hv⟩
