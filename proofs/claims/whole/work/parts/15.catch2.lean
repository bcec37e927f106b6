theorem xi_1i {st : List Value} {k : Int32 → List Value → xm_R} {r : xm_H × Outcome} (h : xm_1i st k = some r) : ∃ x t, st = .int x :: t ∧ k x t = some r := by
  unfold xm_1i at h
  split at h
  · exact ⟨_, _, rfl, h⟩
  · cases h
theorem xi_2i {st : List Value} {k : Int32 → Int32 → List Value → xm_R} {r : xm_H × Outcome} (h : xm_2i st k = some r) : ∃ x y t, st = .int y :: .int x :: t ∧ k x y t = some r := by
  unfold xm_2i at h
  split at h
  · exact ⟨_, _, _, rfl, h⟩
  · cases h
theorem xi_3i {st : List Value} {k : Nat → Int32 → Int32 → List Value → xm_R} {r : xm_H × Outcome} (h : xm_3i st k = some r) : ∃ a i x t, st = .int x :: .int i :: .ref a :: t ∧ k a i x t = some r := by
  unfold xm_3i at h
  split at h
  · exact ⟨_, _, _, _, rfl, h⟩
  · cases h
theorem xi_3l {st : List Value} {k : Nat → Int32 → Int64 → List Value → xm_R} {r : xm_H × Outcome} (h : xm_3l st k = some r) : ∃ a i x t, st = .long x :: .int i :: .ref a :: t ∧ k a i x t = some r := by
  unfold xm_3l at h
  split at h
  · exact ⟨_, _, _, _, rfl, h⟩
  · cases h
theorem xi_1l {st : List Value} {k : Int64 → List Value → xm_R} {r : xm_H × Outcome} (h : xm_1l st k = some r) : ∃ x t, st = .long x :: t ∧ k x t = some r := by
  unfold xm_1l at h
  split at h
  · exact ⟨_, _, rfl, h⟩
  · cases h
theorem xi_2l {st : List Value} {k : Int64 → Int64 → List Value → xm_R} {r : xm_H × Outcome} (h : xm_2l st k = some r) : ∃ x y t, st = .long y :: .long x :: t ∧ k x y t = some r := by
  unfold xm_2l at h
  split at h
  · exact ⟨_, _, _, rfl, h⟩
  · cases h
theorem xi_il {st : List Value} {k : Int64 → Int32 → List Value → xm_R} {r : xm_H × Outcome} (h : xm_il st k = some r) : ∃ x y t, st = .int y :: .long x :: t ∧ k x y t = some r := by
  unfold xm_il at h
  split at h
  · exact ⟨_, _, _, rfl, h⟩
  · cases h
theorem xi_1r {st : List Value} {k : Nat → List Value → xm_R} {r : xm_H × Outcome} (h : xm_1r st k = some r) : ∃ a t, st = .ref a :: t ∧ k a t = some r := by
  unfold xm_1r at h
  split at h
  · exact ⟨_, _, rfl, h⟩
  · cases h
theorem xi_ri {st : List Value} {k : Nat → Int32 → List Value → xm_R} {r : xm_H × Outcome} (h : xm_ri st k = some r) : ∃ a i t, st = .int i :: .ref a :: t ∧ k a i t = some r := by
  unfold xm_ri at h
  split at h
  · exact ⟨_, _, _, rfl, h⟩
  · cases h
theorem xi_vr {st : List Value} {k : Nat → Value → List Value → xm_R} {r : xm_H × Outcome} (h : xm_vr st k = some r) : ∃ a v t, st = v :: .ref a :: t ∧ k a v t = some r := by
  unfold xm_vr at h
  split at h
  · exact ⟨_, _, _, rfl, h⟩
  · cases h
theorem xi_1v {st : List Value} {k : Value → List Value → xm_R} {r : xm_H × Outcome} (h : xm_1v st k = some r) : ∃ v t, st = v :: t ∧ v.category = 1 ∧ k v t = some r := by
  unfold xm_1v at h
  split at h
  · split at h
    · rename_i hc; exact ⟨_, _, rfl, hc, h⟩
    · cases h
  · cases h
theorem xi_2v {st : List Value} {k : Value → Value → List Value → xm_R} {r : xm_H × Outcome} (h : xm_2v st k = some r) : ∃ v w t, st = v :: w :: t ∧ v.category = 1 ∧ w.category = 1 ∧ k v w t = some r := by
  unfold xm_2v at h
  split at h
  · split at h
    · rename_i hc; exact ⟨_, _, _, rfl, hc.1, hc.2, h⟩
    · cases h
  · cases h
theorem xi_jump {pc : Nat} {off : Int} {k : Nat → xm_R} {r : xm_H × Outcome} (h : xm_jump pc off k = some r) : ∃ t : Nat, (pc : Int) + off = (t : Int) ∧ k t = some r := by
  unfold xm_jump at h
  split at h
  · rename_i hc; exact ⟨_, (Int.toNat_of_nonneg hc).symm, h⟩
  · cases h
theorem xi_ld {ok : Value → Bool} {ls st : List Value} {i : Nat} {k : List Value → xm_R} {r : xm_H × Outcome} (h : xm_ld ok ls st i k = some r) : ok (xm_get ls i) = true ∧ k (xm_get ls i :: st) = some r := by
  unfold xm_ld at h
  split at h
  · rename_i hc; exact ⟨hc, h⟩
  · cases h
theorem xi_st1 {ok : Value → Bool} {ls st : List Value} {i : Nat} {k : List Value → List Value → xm_R} {r : xm_H × Outcome} (h : xm_st1 ok ls st i k = some r) : ∃ v t, st = v :: t ∧ ok v = true ∧ i < ls.length ∧ k (xm_put1 ls i v) t = some r := by
  unfold xm_st1 at h
  split at h
  · split at h
    · rename_i hc; exact ⟨_, _, rfl, hc.1, hc.2, h⟩
    · cases h
  · cases h
theorem xi_st2 {ls st : List Value} {i : Nat} {k : List Value → List Value → xm_R} {r : xm_H × Outcome} (h : xm_st2 ls st i k = some r) : ∃ v t, st = .long v :: t ∧ i + 1 < ls.length ∧ k (xm_put2 ls i (.long v)) t = some r := by
  unfold xm_st2 at h
  split at h
  · split at h
    · rename_i hc; exact ⟨_, _, rfl, hc, h⟩
    · cases h
  · cases h
theorem xi_isI {v : Value} (h : xm_isI v = true) : ∃ x, v = .int x := by
  cases v <;> first | exact ⟨_, rfl⟩ | cases h
theorem xi_isL {v : Value} (h : xm_isL v = true) : ∃ x, v = .long x := by
  cases v <;> first | exact ⟨_, rfl⟩ | cases h
theorem xi_isR {v : Value} (h : xm_isR v = true) : ∃ x, v = .ref x := by
  cases v <;> first | exact ⟨_, rfl⟩ | cases h
theorem xi_5 {st : List Value} {k : Nat → Int32 → Nat → Int32 → Int32 → List Value → xm_R} {r : xm_H × Outcome} (h : xm_5 st k = some r) : ∃ a sp b dp n t, st = .int n :: .int dp :: .ref b :: .int sp :: .ref a :: t ∧ k a sp b dp n t = some r := by
  unfold xm_5 at h
  split at h
  · exact ⟨_, _, _, _, _, _, rfl, h⟩
  · cases h
theorem xi_recv {v : Value} {k : Nat → xm_R} {r : xm_H × Outcome} (h : xm_recv v k = some r) : ∃ a, v = .ref a ∧ k a = some r := by
  unfold xm_recv at h
  split at h
  · exact ⟨_, rfl, h⟩
  · cases h
section XG
variable {p : Program} {l : Launch} {e : Env} {R : Room} {s : State} {m : MethodId} {args : Array Value} {below : List Frame} {meth : Method} {c : Code}
variable {b L : Nat} {xs : Nat → Int32} {H0 : Heap} {dC : Nat → ClassId} {dI : Nat → Nat → Nat} {cI cJ : ClassId} {mi nc0 ns0 : Nat}
/-- at a handler: the exception is laid into a local variable, and nobody asks for it again -/
def xs_AtX (p : Program) (l : Launch) (e : Env) (R : Room) (s : State) (m : MethodId) (args : Array Value) (below : List Frame) (meth : Method) (c : Code) (b L : Nat) (xs : Nat → Int32) (H0 : Heap) (dC : Nat → ClassId) (dI : Nat → Nat → Nat) (cI cJ : ClassId) (mi nc0 ns0 : Nat) (res : xm_H × Outcome) (pc : Nat) (ls : List Value) (h : xm_H) : Prop :=
  ∀ (x : Nat) (H : Heap) (LS : Array Slot) (locs : List Loc), nc0 ≤ xm_nc h → ns0 ≤ xm_ns h → xs_Rel b L xs H0 dC dI cI cJ h H locs → xr_Ls b H0.size LS (xm_maxL mi) ls →
    W p l e R s m args below meth c H locs (xm_nc h - nc0) (xm_ns h - ns0) (xs_Q b L xs H0 dC dI cI cJ s below nc0 ns0 res) (F0 m pc LS [.ref x])
theorem xs_lay (C : xs_Ctx p b L xs H0 dC dI cI cJ mi s m args meth c) {res : xm_H × Outcome} {pc j : Nat} {ls : List Value} {h : xm_H} (hj : j < ls.length) (hd : decode (xm_code mi) pc = .ok (.astore j, 2)) (k : xs_At p l e R s m args below meth c b L xs H0 dC dI cI cJ mi nc0 ns0 res (pc + 2) (xm_put1 ls j .null) [] h) : xs_AtX p l e R s m args below meth c b L xs H0 dC dI cI cJ mi nc0 ns0 res pc ls h := fun x H LS locs h1 h2 h3 h4 =>
  lv_astore C.1 C.2.1 hd h4.has (by rw [h4.2.1] at hj; exact hj) rfl fun LS' h' => k H LS' locs h1 h2 h3 (h4.drop (by rw [h4.2.1] at hj; exact hj) h')
theorem xs_lay_n (C : xs_Ctx p b L xs H0 dC dI cI cJ mi s m args meth c) {res : xm_H × Outcome} {pc : Nat} {j : Fin 4} {ls : List Value} {h : xm_H} (hj : j.val < ls.length) (hd : decode (xm_code mi) pc = .ok (.astore_n j, 1)) (k : xs_At p l e R s m args below meth c b L xs H0 dC dI cI cJ mi nc0 ns0 res (pc + 1) (xm_put1 ls j.val .null) [] h) : xs_AtX p l e R s m args below meth c b L xs H0 dC dI cI cJ mi nc0 ns0 res pc ls h := fun x H LS locs h1 h2 h3 h4 =>
  lv_astore_n C.1 C.2.1 hd rfl h4.has (by rw [h4.2.1] at hj; exact hj) rfl fun LS' h' => k H LS' locs h1 h2 h3 (h4.drop (by rw [h4.2.1] at hj; exact hj) h')
theorem xs_Cont.catch (C : xs_Ctx p b L xs H0 dC dI cI cJ mi s m args meth c) {res : xm_H × Outcome} {h h' : xm_H} {ex pc t0 : Nat} {ls stk rest : List Value} (hex : ex < 3) (hct : xm_catch mi pc ex = some t0) (k : xs_AtX p l e R s m args below meth c b L xs H0 dC dI cI cJ mi nc0 ns0 res t0 ls h') :
    xs_Cont p l e R s m args below meth c b L xs H0 dC dI cI cJ mi nc0 ns0 res pc ls stk rest h (h', .threw ex) := by
  intro LS locs T vm₁ mk a t h1 h2 hS h4 X₁ hq hst
  obtain ⟨c1, c2, c3, c4, c5, c6, c7, hts, hK, hX, hbl, c8, hthr, hS0⟩ := id C
  obtain ⟨n1, n2, L1, hrel, x, hE, cell, hx1, hx2, hx3⟩ := hq
  dsimp only at n1 n2 hrel hE
  obtain ⟨T', X', e1, e2, e3⟩ := xw_backT X₁ (g := F0 m pc LS (stk.map (xr_cv b H0.size))) rfl hE
  have e4 : (xm_nc h - nc0) + (xm_nc h' - xm_nc h) = xm_nc h' - nc0 := by omega
  have e5 : (xm_ns h - ns0) + (xm_ns h' - xm_ns h) = xm_ns h' - ns0 := by omega
  rw [e4, e5] at X'
  have hrel2 : xs_Rel b L xs H0 dC dI cI cJ h' t.heap (locs ++ L1) := ⟨hrel.1, ⟨hrel.2.1.1, hrel.2.1.2.1, fun q hq => by
    rcases List.mem_append.mp hq with z | z
    · exact hS.2.2 q z
    · exact hrel.2.1.2.2 q z⟩, hrel.2.2⟩
  have hcls : s.vm.findClass (xt_E.getD ex "") = some cell.cls := by
    rw [← X'.warmed.alike.findClass, e2]; exact hx3
  have hkc : ∃ k, s.vm.classes[cell.cls]? = some k := Vm.classAt_of_findClass hcls
  have hobj : ∀ k, cell.vm ≠ .statics k := fun k hk => by rw [hx2] at hk; cases hk
  have hpl : e.platform.magicAccessors = ({} : Platform).magicAccessors := by rw [X'.admits.platform]
  obtain ⟨z, hz1, hz2⟩ := Option.map_eq_some_iff.mp hct
  rw [← c8, List.find?_map] at hz1
  obtain ⟨y0, hy0, hy1⟩ := Option.map_eq_some_iff.mp hz1
  have hpt : y0.handlerPc = t0 := by rw [← hz2, ← hy1]
  have hoc0 : xm_oc mi = 0 ∨ c.exceptionTable.toList = [] := by
    cases hl : c.exceptionTable.toList with
    | nil => exact Or.inr rfl
    | cons w ws =>
      refine Or.inl (xk_hand (z := (w.startPc, w.endPc, w.handlerPc, w.catchType)) ?_).1
      rw [← c8, hl]
      exact List.mem_cons_self
  have hall : ∀ y ∈ c.exceptionTable.toList, covers y pc = true → y.catchType ≠ 0 ∧ ∃ cT, s.vm.ClassLinks e.platform m.cls y.catchType cT ∧ s.vm.assignable cell.cls cT = (xm_find xt_X (xm_oc mi) y.catchType ex).getD false := by
    intro y hy _
    obtain ⟨ho, r, hr, hr1⟩ := xk_hand (mi := mi) (z := (y.startPc, y.endPc, y.handlerPc, y.catchType)) (by rw [← c8]; exact List.mem_map.mpr ⟨y, hy, rfl⟩)
    have hH := List.all_eq_true.mp xk_H_all r hr
    simp only [Bool.and_eq_true, decide_eq_true_eq, List.all_eq_true, List.mem_range] at hH
    obtain ⟨a1, a2, a3, a4⟩ := hH
    dsimp only at hr1
    rw [hr1] at a1 a3
    have hown : s.vm.findClass "FrameVaultLaw" = some m.cls := by
      have := xk_own mi
      rw [ho] at this
      rw [show "FrameVaultLaw" = (xm_name mi).cls from this]
      exact c6
    obtain ⟨cT, hcT, hl⟩ := Cond.classLink_spec hown (hts _ _ a3) e.platform hpl
    refine ⟨a1, cT, hl, ?_⟩
    have a5 := a4 ex hex
    rw [hr1] at a5
    rw [ho, a5]
    show s.vm.assignable cell.cls cT = (r.2.1 == ex)
    by_cases hj : r.2.1 = ex
    · rw [hj] at hcT ⊢
      cases hcls.symm.trans hcT
      rw [va_asg]
      simp
    · obtain ⟨q1, q2, k1, k2, k3⟩ := hthr.2.2.2 ex r.2.1 hex a2 (fun q => hj q.symm)
      cases hcls.symm.trans k1
      cases hcT.symm.trans k2
      rw [k3]
      simp [hj]
  obtain ⟨vm', hW', hfnd⟩ := xf_go (e := e) (s := s) (f := { F0 m pc LS (stk.map (xr_cv b H0.size)) with stack := rest.map (xr_cv b H0.size) }) (a := x) (cell := cell) (fun y => (xm_find xt_X (xm_oc mi) y.catchType ex).getD false) hobj hkc c.exceptionTable.toList ((T'.setTop { F0 m pc LS (stk.map (xr_cv b H0.size)) with stack := rest.map (xr_cv b H0.size) }).pushFrame (.throwing x)) y0
    (by rw [Stand.throwing_vm]; exact X'.warmed) (by rw [Stand.throwing_heap, e1]; exact hx1) hall (by
      rw [← hy0]
      congr 1
      funext y
      show (decide (y.startPc ≤ pc) && decide (pc < y.endPc) && _) = (decide (y.startPc ≤ pc) && (decide (pc < y.endPc) && _))
      rw [Bool.and_assoc])
  obtain ⟨t2, s2, q2⟩ := k x t.heap LS (locs ++ L1) (by omega) (by omega) hrel2 h4 (T'.setVm vm') e1 (X'.noted hW')
  refine ⟨t2, hst _ ?_, q2⟩
  rw [e3]
  refine xf_caught (c := c) (below := below) (vm' := vm') (pc := t0) (by exact X'.here) (fun Q E d acts => ?_) s2
  rw [W.findHandler_eq (meth := meth) (code := c) (by rw [Stand.throwing_vm]; exact X'.method') X'.code, hfnd Q E d acts, hpt]
end XG
