theorem t_zof {v : Value} (h : tZ v) : ∃ x : Int32, v = .int x ∧ tZ (.int x) := by
  rcases h with rfl | rfl
  · exact ⟨0, rfl, Or.inl rfl⟩
  · exact ⟨1, rfl, Or.inr rfl⟩
theorem t_nZ {x : Int32} (h : tZ (.int x)) : narrow .boolean (.int x) = .int x := by
  rcases h with h | h <;> cases h <;> rfl
theorem t_fZ {x : Int32} (h : tZ (.int x)) : fits .boolean (.int x) = true := by
  rcases h with h | h <;> cases h <;> rfl
abbrev uPz (W : Nat) : va_W → tPi := fun ws r c n w => c = 0 ∧ n = 0 ∧ tKeep W ws w ∧ tZ (.int r)
theorem t_lec {x c : Int32} (h : x ≤ c) (hc : c < 2147483647) : x < 2147483647 := by
  rw [Int32.le_iff_toInt_le] at h
  rw [Int32.lt_iff_toInt_lt] at hc ⊢
  omega
theorem t_sub {E : String} {A B : List String} (h : A.all (fun x => B.contains x) = true) (hE : E ∈ A) : E ∈ B := by
  have := List.all_eq_true.mp h E hE
  simpa using this
theorem t_nnI {x y : Int32} (h : ¬ x < 0) (hl : x < y) : ¬ (x + 1) < 0 := by
  have e := t_inc hl
  rw [Int32.lt_iff_toInt_lt] at h ⊢
  have e0 : (0 : Int32).toInt = 0 := by decide
  omega
theorem t_dzero {x : Int32} (h : (x.toInt + 1).toNat ≤ 0) : ¬ 0 ≤ x := by
  rw [Int32.le_iff_toInt_le]
  have e0 : (0 : Int32).toInt = 0 := by decide
  omega
theorem t_ne0 {x : Int32} (h : 0 < x) : ¬ x = 0 := by
  rintro rfl
  exact absurd h (by decide)
