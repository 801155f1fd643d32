/-! THROWING: a method that makes an exception with a message and throws it -/
theorem thr_rebase {p : Program} {l : Launch} {e : Env} {R : Room} {s : State} {m : MethodId} {args : Array Value} {below : List Frame} {meth : Method} {c : Code} {T : State} {locs : List Loc} {cells slots : Nat} (X : Stand p l e R s m args below meth c T locs cells slots) (hc : cells ≤ R.cells) (hn : slots ≤ R.slots) : Stand p l e { R with cells := R.cells - cells, slots := R.slots - slots } ({ s with heap := T.heap, slotsUsed := T.slotsUsed } : State) m args below meth c T [] 0 0 := by
  have hs1 := X.same.1
  have hh := X.heapSize
  have hu := X.used
  have hbook := X.book
  have hroom := X.room
  refine ⟨X.admits, X.cas, X.clock, X.frames, ?_, X.hears, X.method, X.code, X.here, X.tail, X.warmed, X.limits, X.bytes, ?_⟩
  · simp only [State.hasRoom, Bool.and_eq_true, decide_eq_true_eq] at hroom ⊢
    obtain ⟨⟨⟨⟨h1, h2⟩, h3⟩, h4⟩, h5⟩ := hroom
    exact ⟨⟨⟨⟨h1, h2⟩, by show T.heap.size + (R.cells - cells) ≤ _; omega⟩, by show T.slotsUsed + (R.slots - slots) ≤ _; omega⟩, hbook⟩
  · refine ⟨hs1, Nat.le_refl _, Nat.le_refl _, ?_, ?_, fun a c h => ⟨c, h, rfl, rfl, fun _ _ => rfl⟩⟩
    · show T.slotsUsed = T.slotsUsed + _
      rw [show ((T.setVm s.vm).heap.toList.drop T.heap.size) = [] from List.drop_eq_nil_of_le (by show T.heap.toList.length ≤ _; rw [Array.length_toList]; exact Nat.le_refl _)]
      rfl
    · rw [show ((T.setVm s.vm).heap.toList.drop T.heap.size) = [] from List.drop_eq_nil_of_le (by show T.heap.toList.length ≤ _; rw [Array.length_toList]; exact Nat.le_refl _)]
      exact Nat.le_refl _
