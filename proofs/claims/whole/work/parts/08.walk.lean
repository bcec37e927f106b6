/-! Walks that end in any way, and calls into the next frame -/
def xw_End (s : State) (below : List Frame) (o : Outcome) (locs : List Loc) (cells slots : Nat) (t : State) : Prop :=
  t.status = .running ∧ Ended t below o ∧ s.WarmedH t.vm ∧ s.sameButNew ({ t with vm := s.vm } : State) locs cells slots
section XW
variable {p : Program} {l : Launch} {e : Env} {R : Room} {s : State} {m : MethodId} {args : Array Value} {below : List Frame} {meth : Method} {c : Code} {H : Heap} {locs : List Loc} {cells slots : Nat} {Q : State → Prop}
theorem xw_zret {cc : ByteArray} {v : Int32} {ty : FieldType} (hexec : p.tables.exec = Jvm.exec) (hb : c.code = cc) (hr : meth.sig.returnType = some ty) (hn : narrow ty (.int v) = .int v) (hlocks : meth.locks = false)
    (hq : ∀ t : State, t.heap = H → xw_End s below (.returned (some (.int v))) locs cells slots t → Q t) {pc : Nat} {ls : Array Slot} (hdg : decode cc pc = .ok (.ireturn, 1)) : W p l e R s m args below meth c H locs cells slots Q (F0 m pc ls [.int v]) := by
  intro T hT X
  obtain ⟨fs, hret, hrun, hended, hW, hframe⟩ := X.leave (v := some (.int v)) (fun h => by rw [hr] at h; cases h)
  have hmeth' : T.vm.method? m = some meth := X.method'
  refine ⟨T.setFrames fs, ?_, hq _ hT ⟨hrun, hended, hW, hframe⟩⟩
  jvm_step X.here [X.here.top, hexec, hb, hdg, hmeth', hr, hn]
  (try refine ⟨rfl, ?_⟩); (try refine ⟨rfl, ?_⟩)
  first | (intro acts; rw [hret _ acts rfl rfl rfl]) | rw [hret _ _ rfl rfl rfl]
  exact Steps.refl _
theorem xw_vret {cc : ByteArray} (hexec : p.tables.exec = Jvm.exec) (hb : c.code = cc) (hr : meth.sig.returnType = none) (hlocks : meth.locks = false)
    (hq : ∀ t : State, t.heap = H → xw_End s below (.returned none) locs cells slots t → Q t) {pc : Nat} {ls : Array Slot} (hdg : decode cc pc = .ok (.return_, 1)) : W p l e R s m args below meth c H locs cells slots Q (F0 m pc ls []) := by
  intro T hT X
  obtain ⟨fs, hret, hrun, hended, hW, hframe⟩ := X.leave (v := none) (fun _ => rfl)
  have hmeth' : T.vm.method? m = some meth := X.method'
  refine ⟨T.setFrames fs, ?_, hq _ hT ⟨hrun, hended, hW, hframe⟩⟩
  jvm_step X.here [X.here.top, hexec, hb, hdg, hmeth', hr]
  (try refine ⟨rfl, ?_⟩); (try refine ⟨rfl, ?_⟩)
  first | (intro acts; rw [hret _ acts rfl rfl rfl]) | rw [hret _ _ rfl rfl rfl]
  exact Steps.refl _
/-- into the callee's frame: its walk, and what the caller's steps come to -/
theorem xw_into {T : State} {vm₁ : Vm} (X₁ : Stand p l e R s m args below meth c (T.setVm vm₁) locs cells slots) {g : JFrame} {rest : List Value} (hg : g.method = m) (hsize : g.locals.size = c.maxLocals) (hm0 : g.monitorRoom = 0) {ig : Instr} (hdg : decode c.code g.pc = .ok (ig, 3))
    {mk : MethodId} {a : Array Value} {methk : Method} {ck : Code} {R' : Room} {Qi : State → Prop}
    (hstep : ∀ target, (∀ acts, Steps p.tables e below (doInvoke e ((T.setVm vm₁).setTop { g with stack := rest }) acts mk a).1 target) → Steps p.tables e below (T.setTop g) target)
    (hmk : vm₁.method? mk = some methk) (hck : methk.code = some ck) (hlk : methk.locks = false) (hpk : (T.setVm vm₁).plainMethod mk)
    (hframes : R'.frames + 1 ≤ R.frames) (hlocals : (rest.map fun v => v.category).sum + (ck.maxLocals + 11) + R'.locals ≤ R.locals) (hcells : cells + R'.cells ≤ R.cells) (hslots : slots + R'.slots ≤ R.slots)
    (inner : W p l e R' ((T.setVm vm₁).calling { g with stack := rest } mk a) mk a (.java { g with stack := rest } :: below) methk ck T.heap [] 0 0 Qi (entryFrame mk a ck.maxLocals)) :
    ∃ t, Qi t ∧ ∀ target, Steps p.tables e below t target → Steps p.tables e below (T.setTop g) target := by
  obtain ⟨Y₀, hin⟩ := X₁.into (g := { g with stack := rest }) hg hsize hdg a (R' := R') hmk hck hlk hpk hframes (by show 2 * g.monitorRoom + (rest.map fun v => v.category).sum + (ck.maxLocals + 11) + R'.locals ≤ R.locals; rw [hm0]; omega) hcells hslots
  obtain ⟨t, st, hq⟩ := inner (((T.setVm vm₁).setTop { g with stack := rest }).pushFrame (.java (entryFrame mk a ck.maxLocals))) (by first | rfl | simp) Y₀
  refine ⟨t, hq, fun target h => hstep target fun acts => ?_⟩
  rw [hin acts]
  exact (Steps.weaken (mid := [.java { g with stack := rest }]) st).trans h
/-- behind a call that returned -/
theorem xw_back {T : State} {vm₁ : Vm} (X₁ : Stand p l e R s m args below meth c (T.setVm vm₁) locs cells slots) {g : JFrame} {rest : List Value} (hg : g.method = m) {ig : Instr} (hdg : decode c.code g.pc = .ok (ig, 3))
    {mk : MethodId} {a : Array Value} {t : State} {v : Option Value} {L : List Loc} {k n : Nat}
    (hE : xw_End ((T.setVm vm₁).calling { g with stack := rest } mk a) (.java { g with stack := rest } :: below) (.returned v) L k n t) :
    ∃ T', Stand p l e R s m args below meth c T' (locs ++ L) (cells + k) (slots + n) ∧ T'.heap = t.heap ∧ T'.vm = t.vm ∧ t = T'.setTop { g with pc := g.pc + 3, stack := v.toList ++ rest } := by
  obtain ⟨T', X', -, -, ht⟩ := X₁.outOf (g := { g with stack := rest }) hg hdg hE.2.1 hE.2.2.1 hE.2.2.2
  refine ⟨T', X', ?_, ?_, ht⟩
  · have h1 := congrArg State.heap ht
    rw [h1]
    simp
  · have h1 := congrArg State.vm ht
    rw [h1]
    simp
/-- behind a call that threw -/
theorem xw_backT {T : State} {vm₁ : Vm} (X₁ : Stand p l e R s m args below meth c (T.setVm vm₁) locs cells slots) {g : JFrame} {rest : List Value} (hg : g.method = m)
    {mk : MethodId} {a : Array Value} {t : State} {x : Addr} {L : List Loc} {k n : Nat}
    (hE : xw_End ((T.setVm vm₁).calling { g with stack := rest } mk a) (.java { g with stack := rest } :: below) (.threw x) L k n t) :
    ∃ T', Stand p l e R s m args below meth c T' (locs ++ L) (cells + k) (slots + n) ∧ T'.heap = t.heap ∧ T'.vm = t.vm ∧ t = (T'.setTop { g with stack := rest }).pushFrame (.throwing x) := by
  obtain ⟨T', X', -, -, ht⟩ := X₁.outOfThrown (g := { g with stack := rest }) hg hE.2.1 hE.2.2.1 hE.2.2.2
  refine ⟨T', X', ?_, ?_, ht⟩
  · have h1 := congrArg State.heap ht
    rw [h1, Stand.throwing_heap]
  · have h1 := congrArg State.vm ht
    rw [h1, Stand.throwing_vm]
end XW
