/-! what throwing asks beside the tables: two statics, the String constants, who isn't whose kind -/
def xt_Str : List (Nat × String) := [(67, "no such shape"), (81, "no time for a next frame"), (89, "no room for a frame"), (102, "no such place"), (105, "no sample"), (115, "no such frame"), (129, "nothing is known about this"), (135, "no such mode, or not so many slices"), (145, "the file would be too long"), (173, "no such byte"), (179, "no byte"), (185, "not 1 .. 8 bytes"), (192, "not so many bytes"), (194, "no such bytes"), (196, "fewer than no bytes")]
def xo_Z (C n d : String) (U : State) (H : Heap) : Prop := ∃ (c : ClassId) (k : Class) (i : Nat) (f : Field) (a : Nat) (cell : Cell) (v : Value), U.vm.findClass C = some c ∧ U.fieldFound? C n d = some (c, k, i, f) ∧ f.isStatic = true ∧ k.statics = some a ∧ H[a]? = some cell ∧ cell.vm.isStatics = true ∧ cell.cls = c ∧ f.slot < cell.slots.size ∧ k.staticTypes[f.slot]? = some f.type ∧ cell.slots[f.slot]? = some v ∧ v.isRef = true
theorem xo_Z.moved {C n d : String} {u U : State} {H : Heap} (hvm : u.vm.Alike U.vm) (h : xo_Z C n d u H) : xo_Z C n d U H := by
  obtain ⟨c, k, i, f, a, cell, v, hc, hi, hst, ha, hcell, hs, hcls, hlt, hty, hv⟩ := h
  obtain ⟨k', hi', hek⟩ := State.fieldFound?_setVm hvm hi
  exact ⟨c, k', i, f, a, cell, v, by rw [hvm.findClass]; exact hc, hi', hst, by rw [hek]; exact ha, hcell, hs, hcls, hlt, by rw [hek]; exact hty, hv⟩
theorem xo_Z.kept {C n d : String} {U : State} {H H1 : Heap} (h : xo_Z C n d U H) (hq : ∀ q, q < H.size → H1[q]? = H[q]?) : xo_Z C n d U H1 := by
  obtain ⟨c, k, i, f, a, cell, v, hc, hi, hst, ha, hcell, hs, hcls, hlt, hty, hv⟩ := h
  exact ⟨c, k, i, f, a, cell, v, hc, hi, hst, ha, by rw [hq a (Array.getElem?_eq_some_iff.mp hcell).1]; exact hcell, hs, hcls, hlt, hty, hv⟩
theorem xo_Z.lays {C n d : String} {args : Array Value} {U : State} (h : xo_Z C n d U U.heap) : (Cond.laysStatic C n d).before args U = true := by
  obtain ⟨c, k, i, f, a, cell, v, hc, hi, hst, ha, hcell, hs, hcls, hlt, hty, hv⟩ := h
  exact Cond.laysStatic_of hc hi hst ha hcell hs hcls hlt hty
theorem xo_Z.ref {C n d : String} {args : Array Value} {U : State} (h : xo_Z C n d U U.heap) : (Cond.isRef (.static C n d)).before args U = true := by
  obtain ⟨c, k, i, f, a, cell, v, hc, hi, hst, ha, hcell, hs, hcls, hlt, hty, hv, hr⟩ := h
  have he : (Term.static C n d).eval args U none [] U = some v := by
    simp [Term.eval, State.fieldNamed?, hi, hst, ha, hcell, hs, hv]
  cases v <;> first | (simp [Cond.before, Cond.holds, Cond.value, he]; done) | cases hr
theorem xo_Z.of {C n d : String} {args : Array Value} {U : State} (hl : (Cond.laysStatic C n d).before args U = true) (hr : (Cond.isRef (.static C n d)).before args U = true) : xo_Z C n d U U.heap := by
  obtain ⟨c, k, i, f, a, cell, hc, hi, hst, ha, hcell, hs, hcls, hlt, hty⟩ := Cond.laysStatic_spec hl
  have he : (Term.static C n d).eval args U none [] U = cell.slots[f.slot]? := by
    simp [Term.eval, State.fieldNamed?, hi, hst, ha, hcell, hs]
  refine ⟨c, k, i, f, a, cell, cell.slots[f.slot], hc, hi, hst, ha, hcell, hs, hcls, hlt, hty, Array.getElem?_eq_getElem hlt, ?_⟩
  rw [Array.getElem?_eq_getElem hlt] at he
  cases hv : cell.slots[f.slot] with
  | ref x => rfl
  | null => rfl
  | _ => rw [hv] at he; simp [Cond.before, Cond.holds, Cond.value, he] at hr
def xo_T (H0 : Heap) (s : State) : Prop := xo_Z Bundle.tN "UNASSIGNED_STACK" Bundle.steD s H0 ∧ xo_Z Bundle.tN "SUPPRESSED_SENTINEL" Bundle.listD s H0 ∧ (∀ q ∈ xt_Str, ∃ a, vk_R "FrameVault" q.1 q.2 a s) ∧ ∀ i j, i < 3 → j < 3 → i ≠ j → va_Nc (xt_E.getD i "") (xt_E.getD j "") s
theorem xo_T.moved {H0 : Heap} {s U : State} (hW : s.WarmedH U.vm) (h : xo_T H0 s) : xo_T H0 U :=
  ⟨h.1.moved hW.alike, h.2.1.moved hW.alike, fun q hq => by
    obtain ⟨a, ha⟩ := h.2.2.1 q hq
    exact ⟨a, vk_R.warm hW ha⟩, fun i j hi hj hij => (h.2.2.2 i j hi hj hij).moved hW.alike⟩
