/-! What a call makes: at most c cells of n slots, and no old cell changes its size. -/
def tSzb (c n : Nat) (s t : State) : Prop := s.heap.size ≤ t.heap.size ∧ t.heap.size ≤ s.heap.size + c ∧ ((t.heap.toList.drop s.heap.size).map (fun c => c.slots.size)).sum ≤ n ∧ (t.heap.toList.map (fun c => c.slots.size)).take s.heap.size = s.heap.toList.map (fun c => c.slots.size)
section TBACK
variable {p : Program} {l : Launch} {e : Env} {R : Room} {s : State} {m : MethodId} {args : Array Value} {below : List Frame} {meth : Method} {c : Code}
theorem t_back {T T' : State} {locs locs' : List Loc} {k n k' n' a b : Nat} (X : Stand p l e R s m args below meth c T locs k n) (X' : Stand p l e R s m args below meth c T' locs' k' n') (h : tSzb a b T T') : Stand p l e R s m args below meth c T' locs' (k + a) (n + b) := by
  obtain ⟨a1, a2, a3, a4, a5, a6⟩ := X.same
  obtain ⟨b1, b2, b3, b4, b5, b6⟩ := X'.same
  obtain ⟨h1, h2, h3, h4⟩ := h
  have a2' : s.heap.size ≤ T.heap.size := a2
  have a3' : T.heap.size ≤ s.heap.size + k := a3
  have a5' : ((T.heap.toList.drop s.heap.size).map (fun c => c.slots.size)).sum ≤ n := a5
  have hd : ((T'.heap.toList.drop s.heap.size).map (fun c => c.slots.size)).sum ≤ n + b := by
    have e1 : (T'.heap.toList.map (fun c => c.slots.size)) = T.heap.toList.map (fun c => c.slots.size) ++ (T'.heap.toList.drop T.heap.size).map (fun c => c.slots.size) := by
      conv => lhs; rw [← List.take_append_drop T.heap.size (T'.heap.toList.map (fun c => c.slots.size))]
      rw [h4, List.map_drop]
    have e2 : (T'.heap.toList.drop s.heap.size).map (fun c => c.slots.size) = (T.heap.toList.drop s.heap.size).map (fun c => c.slots.size) ++ (T'.heap.toList.drop T.heap.size).map (fun c => c.slots.size) := by
      rw [List.map_drop, e1, List.drop_append_of_le_length (by simpa using a2'), ← List.map_drop]
    rw [e2, List.sum_append]
    omega
  exact { X' with same := ⟨b1, b2, by show T'.heap.size ≤ s.heap.size + (k + a); omega, b4, hd, b6⟩ }
theorem t_none {T : State} {locs : List Loc} {k n : Nat} (X : Stand p l e R s m args below meth c T locs k n) : tSzb k n s T := by
  obtain ⟨a1, a2, a3, a4, a5, a6⟩ := X.same
  have a2' : s.heap.size ≤ T.heap.size := a2
  refine ⟨a2, a3, a5, ?_⟩
  apply List.ext_getElem?
  intro i
  by_cases hi : i < s.heap.size
  · rw [List.getElem?_take_of_lt hi, List.getElem?_map, List.getElem?_map, Array.getElem?_toList, Array.getElem?_toList]
    cases hc : s.heap[i]? with
    | none =>
      have h2 : s.heap.size ≤ i := Array.getElem?_eq_none_iff.mp hc
      omega
    | some cc =>
      obtain ⟨c', h1, -, h3, -⟩ := a6 i cc hc
      have h1' : T.heap[i]? = some c' := h1
      rw [h1']
      show some c'.slots.size = some cc.slots.size
      rw [h3]
  · rw [List.getElem?_take_eq_none (by omega), List.getElem?_eq_none (by simpa using hi)]
end TBACK
