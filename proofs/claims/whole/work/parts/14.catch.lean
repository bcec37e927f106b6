/-! THE CATCH: the search of a table whose classes may be cold -/
def xt_H : List (Nat × Nat × Nat) := [(13, 0, 554), (19, 1, 635), (25, 2, 663)]
theorem xk_H_all : xt_H.all (fun r => decide (r.1 ≠ 0) && (decide (r.2.1 < 3) && (xk_at r.2.2 (.classLink "FrameVaultLaw" r.1 (xt_E.getD r.2.1 "")) && (List.range 3).all (fun ex => decide (xm_find xt_X 0 r.1 ex = some (r.2.1 == ex)))))) = true := by decide +kernel
theorem xk_hand_all : xt_M.all (fun q => decide (q.2.2.2.2.2 = []) || (decide (q.1 = 0) && q.2.2.2.2.2.all (fun z => xt_H.any (fun r => r.1 == z.2.2.2)))) = true := by decide +kernel
theorem xk_hand {mi : Nat} {z : Nat × Nat × Nat × Nat} (hz : z ∈ xm_hand mi) : xm_oc mi = 0 ∧ ∃ r ∈ xt_H, r.1 = z.2.2.2 := by
  have hm : xm_meth mi ∈ xt_M := by
    unfold xm_hand xm_meth at hz
    unfold xm_meth
    rw [List.getD_eq_getElem?_getD] at hz ⊢
    cases he : xt_M[mi]? with
    | none => rw [he] at hz; cases hz
    | some q => exact List.mem_of_getElem? he
  have h1 := List.all_eq_true.mp xk_hand_all _ hm
  simp only [Bool.or_eq_true, Bool.and_eq_true, decide_eq_true_eq, List.all_eq_true, List.any_eq_true, beq_iff_eq] at h1
  rcases h1 with h1 | h1
  · unfold xm_hand at hz
    rw [h1] at hz
    cases hz
  · exact ⟨h1.1, h1.2 z hz⟩
section XF
variable {p : Program} {l : Launch} {e : Env} {R : Room} {s : State} {m : MethodId} {args : Array Value} {below : List Frame} {meth : Method} {c : Code}
/-- one entry that has the pc, its class cold or warm -/
theorem xf_link {Q : Handler → Pre} {E : CtlPost} {d : Bool} {acts : List Action} {S : State} {f : JFrame} {a : Addr} {x : ExceptionTableEntry} {t : List ExceptionTableEntry} {cT : ClassId} {cell : Cell} (hx : covers x f.pc = true) (h0 : x.catchType ≠ 0)
    (hl : S.vm.ClassLinks e.platform f.method.cls x.catchType cT) (hcell : S.heap[a]? = some cell) (hobj : ∀ k, cell.vm ≠ .statics k)
    (hk : ∃ k, S.vm.classes[cell.cls]? = some k) (hc : ∃ k, S.vm.classes[cT]? = some k) :
    wp (findHandler.go f a (x :: t)) Q E e d acts S ↔ if S.vm.assignable cell.cls cT = true then Q (.found x.handlerPc) d acts (S.setVm (S.vm.noted f.method.cls x.catchType (.cls cT))) else wp (findHandler.go f a t) Q E e d acts (S.setVm (S.vm.noted f.method.cls x.catchType (.cls cT))) := by
  simp only [covers] at hx
  obtain ⟨ha, ht⟩ := (resolveClass_links e.toSetting hl).op (op := VmOp.resolveClass f.method.cls x.catchType) rfl
  have hal : S.vm.Alike (S.vm.noted f.method.cls x.catchType (.cls cT)) := (Vm.Alike.refl S.vm).noted _ _ _
  obtain ⟨k1, hk1⟩ := hk
  obtain ⟨k2, hk2⟩ := hc
  obtain ⟨k1', hk1', -⟩ := hal.2.2 _ _ hk1
  obtain ⟨k2', hk2', -⟩ := hal.2.2 _ _ hk2
  cases hfit : S.vm.assignable cell.cls cT with
  | true =>
    have hfit' : (S.vm.noted f.method.cls x.catchType (.cls cT)).assignable cell.cls cT = true := by rw [hal.assignable]; exact hfit
    simp [findHandler.go, hx, h0, ha, ht, hcell, hobj, hk1', hk2', hfit', VmOp.dirties, VmOp.acts]
  | false =>
    have hfit' : (S.vm.noted f.method.cls x.catchType (.cls cT)).assignable cell.cls cT = false := by rw [hal.assignable]; exact hfit
    simp [findHandler.go, hx, h0, ha, ht, hcell, hobj, hk1', hk2', hfit', VmOp.dirties, VmOp.acts]
/-- the search through the entries -/
theorem xf_go {f : JFrame} {a : Addr} {cell : Cell} (flag : ExceptionTableEntry → Bool) (hobj : ∀ k, cell.vm ≠ .statics k) (hkc : ∃ k, s.vm.classes[cell.cls]? = some k) : ∀ (es : List ExceptionTableEntry) (S : State) (y0 : ExceptionTableEntry), s.WarmedH S.vm → S.heap[a]? = some cell →
    (∀ y ∈ es, covers y f.pc = true → y.catchType ≠ 0 ∧ ∃ cT, s.vm.ClassLinks e.platform f.method.cls y.catchType cT ∧ s.vm.assignable cell.cls cT = flag y) →
    es.find? (fun y => covers y f.pc && flag y) = some y0 →
    ∃ vm', s.WarmedH vm' ∧ ∀ (Q : Handler → Pre) (E : CtlPost) (d : Bool) (acts : List Action), wp (findHandler.go f a es) Q E e d acts S ↔ Q (.found y0.handlerPc) d acts (S.setVm vm')
  | [], S, y0, _, _, _, hfind => by cases hfind
  | y :: es, S, y0, hW, hcell, hall, hfind => by
    cases hcov : covers y f.pc with
    | false =>
      rw [List.find?_cons, hcov, Bool.false_and] at hfind
      obtain ⟨vm', hW', hk⟩ := xf_go flag hobj hkc es S y0 hW hcell (fun z hz => hall z (List.mem_cons_of_mem _ hz)) hfind
      exact ⟨vm', hW', fun Q E d acts => (W.findHandler_go_skip hcov).trans (hk Q E d acts)⟩
    | true =>
      obtain ⟨h0, cT, hl, hfl⟩ := hall y List.mem_cons_self hcov
      have hl2 := hW.classLinks hl
      obtain ⟨dk, _, _, kt, hd, _, _, _, _, hkt, _, hopen⟩ := hl.here
      have hW2 : s.WarmedH (S.vm.noted f.method.cls y.catchType (.cls cT)) := hW.noted hd hopen (State.rightAt_cls hl)
      obtain ⟨kk1, hkk1⟩ := hkc
      obtain ⟨kk1', hkk1', -⟩ := hW.alike.2.2 _ _ hkk1
      obtain ⟨kt', hkt', -⟩ := hW.alike.2.2 _ _ hkt
      have has : S.vm.assignable cell.cls cT = flag y := by rw [hW.alike.assignable]; exact hfl
      cases hfy : flag y with
      | true =>
        rw [List.find?_cons, hcov, hfy] at hfind
        cases hfind
        refine ⟨_, hW2, fun Q E d acts => ?_⟩
        rw [xf_link hcov h0 hl2 hcell hobj ⟨_, hkk1'⟩ ⟨_, hkt'⟩, if_pos (has.trans hfy)]
      | false =>
        rw [List.find?_cons, hcov, hfy] at hfind
        obtain ⟨vm', hW', hk⟩ := xf_go flag hobj ⟨kk1, hkk1⟩ es (S.setVm (S.vm.noted f.method.cls y.catchType (.cls cT))) y0 hW2 hcell (fun z hz => hall z (List.mem_cons_of_mem _ hz)) hfind
        refine ⟨vm', hW', fun Q E d acts => ?_⟩
        rw [xf_link hcov h0 hl2 hcell hobj ⟨_, hkk1'⟩ ⟨_, hkt'⟩, if_neg (by rw [has, hfy]; decide)]
        exact hk Q E d acts
/-- into the handler -/
theorem xf_caught {T target : State} {g : JFrame} {a : Addr} (h : At T g.method c below) {pc : Nat} {vm' : Vm}
    (hfind : ∀ (Q : Handler → Pre) (E : CtlPost) (d : Bool) (acts : List Action), wp (findHandler g a) Q E e d acts ((T.setTop g).pushFrame (.throwing a)) ↔ Q (.found pc) d acts (((T.setTop g).pushFrame (.throwing a)).setVm vm'))
    (hrest : Steps p.tables e below ((T.setVm vm').setTop { g with pc := pc, stack := [.ref a] }) target) : Steps p.tables e below ((T.setTop g).pushFrame (.throwing a)) target := by
  obtain ⟨hgo, hw⟩ := h.throwing a
  refine Steps.head hgo hw ?_
  have hstep : (stepThrowing e ((T.setTop g).pushFrame (.throwing a)) a (.java g :: T.frames.tail)).1 = (((T.setTop g).pushFrame (.throwing a)).setVm vm').setFrames (.java { g with pc := pc, stack := [.ref a] } :: T.frames.tail) := by
    simp only [stepThrowing, searchFrame, vmDo]
    generalize hr : Sem.go _ e false [] ((T.setTop g).pushFrame (.throwing a)) = res
    obtain ⟨as, rfl, ha⟩ := Sem.eq_ok_of hr (a := Handler.found pc) (s' := ((T.setTop g).pushFrame (.throwing a)).setVm vm') (acts' := []) (by simp [hfind _ _ _ _])
    rfl
  rw [stepThread_throwing (frames_entered h.top _), hstep]
  obtain ⟨g₀, hg⟩ := Option.isSome_iff_exists.mp h.top
  obtain ⟨r, hr⟩ := State.topJava?_eq_some.mp hg
  have hr' : (T.setVm vm').frames = .java g₀ :: r := hr
  have e1 : (((T.setTop g).pushFrame (.throwing a)).setVm vm').setFrames (.java { g with pc := pc, stack := [.ref a] } :: T.frames.tail) = (T.setVm vm').setTop { g with pc := pc, stack := [.ref a] } := by
    rw [State.setTop_of_frames _ hr', hr, List.tail_cons, State.pushFrame, State.setTop_of_frames _ hr]
    show (((T.setFrames _).setFrames _).setVm vm').setFrames _ = _
    rw [State.setFrames_setFrames]
    show ((T.setVm vm').setFrames _).setFrames _ = _
    rw [State.setFrames_setFrames]
  rw [e1]
  exact hrest
end XF
