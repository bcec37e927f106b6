/-! THROWING: a walk begun anew where it stands, the library's own throw, the catch -/
section XB
variable {p : Program} {l : Launch} {e : Env} {R : Room} {s : State} {m : MethodId} {args : Array Value} {below : List Frame} {meth : Method} {c : Code} {T : State} {locs : List Loc} {cells slots : Nat}
/-- the start, with the heap as it is now -/
def xb_s (s T : State) : State := { s with heap := T.heap, slotsUsed := T.slotsUsed }
def xb_R (R : Room) (cells slots : Nat) : Room := { frames := R.frames, cells := R.cells - cells, slots := R.slots - slots, locals := R.locals }
theorem xb_warm {s T : State} {vm : Vm} (h : s.WarmedH vm) : (xb_s s T).WarmedH vm := h
theorem xb_warm' {s T : State} {vm : Vm} (h : (xb_s s T).WarmedH vm) : s.WarmedH vm := h
theorem xb_drop (l : List Cell) : (List.drop l.length l) = [] := List.drop_length
theorem xb_stand (X : Stand p l e R s m args below meth c T locs cells slots) (hc : cells ≤ R.cells) (hs : slots ≤ R.slots) : Stand p l e (xb_R R cells slots) (xb_s s T) m args below meth c T [] 0 0 := by
  have hsame := X.same
  have hroom := X.room
  have hbook := X.book
  have hsz := X.heapSize
  have hus := X.used
  refine ⟨X.admits, X.cas, X.clock, X.frames, ?_, X.hears, X.method, X.code, X.here, X.tail, xb_warm X.warmed, X.limits, X.bytes, ?_⟩
  · simp only [State.hasRoom, Bool.and_eq_true, decide_eq_true_eq] at hroom ⊢
    obtain ⟨⟨⟨⟨a1, a2⟩, a3⟩, a4⟩, -⟩ := hroom
    refine ⟨⟨⟨⟨a1, a2⟩, ?_⟩, ?_⟩, hbook⟩
    · show T.heap.size + (R.cells - cells) ≤ _; omega
    · show T.slotsUsed + (R.slots - slots) ≤ _; omega
  · have e1 := hsame.1
    refine ⟨?_, Nat.le_refl _, Nat.le_refl _, ?_, ?_, fun a c hc => ⟨c, hc, rfl, rfl, fun _ _ => rfl⟩⟩
    · exact e1
    · show T.slotsUsed = T.slotsUsed + ((T.heap.toList.drop T.heap.size).map (·.slots.size)).sum
      rw [show T.heap.size = T.heap.toList.length from rfl, xb_drop]
      rfl
    · show ((T.heap.toList.drop T.heap.size).map (·.slots.size)).sum ≤ 0
      rw [show T.heap.size = T.heap.toList.length from rfl, xb_drop]
      exact Nat.le_refl _
/-- what a walk from there leaves as it was -/
theorem xb_keeps {t : State} {k n : Nat} (h : (xb_s s T).sameButNew ({ t with vm := s.vm } : State) [] k n) : T.heap.size ≤ t.heap.size ∧ ∀ q, q < T.heap.size → t.heap[q]? = T.heap[q]? := by
  obtain ⟨-, h1, -, -, -, h2⟩ := h
  refine ⟨h1, fun q hq => ?_⟩
  have hc : (xb_s s T).heap[q]? = some T.heap[q] := Array.getElem?_eq_getElem hq
  obtain ⟨c', e1, e2, e3, e4⟩ := h2 q _ hc
  have e5 : c'.slots = T.heap[q].slots := by
    apply Array.ext_getElem?
    intro i
    exact e4 i (by simp)
  rw [show t.heap[q]? = some c' from e1, Array.getElem?_eq_getElem hq, e2, e5]
theorem xb_back (X : Stand p l e R s m args below meth c T locs cells slots) {t : State} {k n : Nat} (h : (xb_s s T).sameButNew ({ t with vm := s.vm } : State) [] k n) : s.sameButNew ({ t with vm := s.vm } : State) locs (cells + k) (slots + n) := by
  have h1 := X.same
  have h2 : (T.setVm s.vm).sameButNew ({ t with vm := s.vm } : State) [] k n := by
    obtain ⟨e1, e2⟩ := h
    refine ⟨?_, e2⟩
    have e3 := h1.1
    have e : (T.setVm s.vm).setFrames ({ t with vm := s.vm } : State).frames = ({ s.setFrames ({ t with vm := s.vm } : State).frames with heap := T.heap, slotsUsed := T.slotsUsed } : State) := by
      refine (congrArg (·.setFrames ({ t with vm := s.vm } : State).frames) e3).trans ?_
      show ({ (s.setFrames (T.setVm s.vm).frames).setFrames ({ t with vm := s.vm } : State).frames with heap := T.heap, slotsUsed := T.slotsUsed } : State) = _
      rw [State.setFrames_setFrames]
    refine e1.trans ?_
    rw [e]
    rfl
  have h3 := h1.trans h2
  rw [List.append_nil] at h3
  exact h3
end XB
