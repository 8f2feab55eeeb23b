/-! A call that makes no cell leaves the counters where they were. -/
def tSz (s t : State) : Prop := t.heap.toList.map (fun c => c.slots.size) = s.heap.toList.map (fun c => c.slots.size)
section TBACK
variable {p : Program} {l : Launch} {e : Env} {R : Room} {s : State} {m : MethodId} {args : Array Value} {below : List Frame} {meth : Method} {c : Code}
theorem t_back {T T' : State} {locs locs' : List Loc} {k n k' n' : Nat} (X : Stand p l e R s m args below meth c T locs k n) (X' : Stand p l e R s m args below meth c T' locs' k' n') (h : tSz T T') : Stand p l e R s m args below meth c T' locs' k n := by
  obtain ⟨a1, a2, a3, a4, a5, a6⟩ := X.same
  obtain ⟨b1, b2, b3, b4, b5, b6⟩ := X'.same
  have hz : T'.heap.size = T.heap.size := by
    have := congrArg List.length h
    simpa using this
  have hd : (T'.heap.toList.drop s.heap.size).map (fun c => c.slots.size) = (T.heap.toList.drop s.heap.size).map (fun c => c.slots.size) := by
    rw [List.map_drop, List.map_drop, h]
  exact { X' with same := ⟨b1, b2, by show T'.heap.size ≤ _; rw [hz]; exact a3, b4, by show ((T'.heap.toList.drop s.heap.size).map (fun c => c.slots.size)).sum ≤ n; rw [hd]; exact a5, b6⟩ }
theorem t_none {T : State} {locs : List Loc} (X : Stand p l e R s m args below meth c T locs 0 0) : tSz s T := by
  obtain ⟨a1, a2, a3, a4, a5, a6⟩ := X.same
  have hz : T.heap.size = s.heap.size := Nat.le_antisymm a3 a2
  apply List.ext_getElem?
  intro i
  rw [List.getElem?_map, List.getElem?_map, Array.getElem?_toList, Array.getElem?_toList]
  cases hc : s.heap[i]? with
  | none =>
    have h2 : T.heap.size ≤ i := by
      rw [hz]
      exact Array.getElem?_eq_none_iff.mp hc
    rw [Array.getElem?_eq_none_iff.mpr h2]
  | some cc =>
    obtain ⟨c', h1, -, h3, -⟩ := a6 i cc hc
    have h1' : T.heap[i]? = some c' := h1
    rw [h1']
    show some c'.slots.size = some cc.slots.size
    rw [h3]
end TBACK
