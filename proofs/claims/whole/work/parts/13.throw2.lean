/-! a throw of the class's own, and its catch -/
section XT
variable {p : Program} {l : Launch} {e : Env} {R : Room} {s : State} {m : MethodId} {args : Array Value} {below : List Frame} {meth : Method} {c : Code}
variable {b L : Nat} {xs : Nat → Int32} {H0 : Heap} {dC : Nat → ClassId} {dI : Nat → Nat → Nat} {cI cJ : ClassId} {mi nc0 ns0 : Nat}
set_option maxHeartbeats 2000000 in
theorem xs_throw (C : xs_Ctx p b L xs H0 dC dI cI cJ mi s m args meth c) {d : Nat} (hR : xs_Room R d nc0 ns0) (htr : e.platform.stackTraces = false) {pc k : Nat} {ls st : List Value} {h : xm_H} {q : Nat × Nat × Nat × Nat}
    (hf : xm_find xt_T mi pc 0 = some q) (hk : k = q.2.1) (hhand : xm_hand mi = []) (d0 : decode (xm_code mi) pc = .ok (.new k, 3)) (d3 : decode (xm_code mi) (pc + 3) = .ok (.dup, 1)) (d4 : decode (xm_code mi) (pc + 4) = .ok (.ldc q.2.2.1, 2)) (d6 : decode (xm_code mi) (pc + 6) = .ok (.invokespecial q.2.2.2, 3)) (d9 : decode (xm_code mi) (pc + 9) = .ok (.athrow, 1))
    (hd7 : 7 ≤ d) (hw : xm_words st ≤ 8) (hc0 : xm_nc h + 1 ≤ 1076) (hs0 : xm_ns h + 6 ≤ 21520) :
    xs_At p l e R s m args below meth c b L xs H0 dC dI cI cJ mi nc0 ns0 (xm_lost h 1 6, .threw q.1) pc ls st h := by
  intro H LS locs h1 h2 h3 h4 T hT X
  obtain ⟨c1, c2, c3, c4, c5, c6, c7, hts, hK, hX, hbl, c8, hthr, hS0⟩ := id C
  obtain ⟨r1, r2, r3, r4⟩ := hR
  obtain ⟨hP, hS, g4, g5, g1, g2, g6⟩ := id h3
  have hF := List.all_eq_true.mp xk_T_all _ (xm_find_mem hf)
  unfold xk_Tb at hF
  simp only [Bool.and_eq_true, decide_eq_true_eq, List.any_eq_true, beq_iff_eq] at hF
  obtain ⟨hex, hoc, hni, hic, z, hz, hzi⟩ := hF
  have hW := List.all_eq_true.mp xo_words q.1 (List.mem_range.mpr hex)
  simp only [Bool.and_eq_true] at hW
  obtain ⟨w1, w2, w3, w4, w5, w6⟩ := hW
  have hown : s.vm.findClass "FrameVault" = some m.cls := by
    have := xk_own mi
    rw [hoc] at this
    rw [show "FrameVault" = (xm_name mi).cls from this]
    exact c6
  have hcc : xm_nc h - nc0 ≤ R.cells := by omega
  have hss : xm_ns h - ns0 ≤ R.slots := by omega
  have X' := xb_stand X hcc hss
  have hts' : xk_W args (xb_s s T) := xk_W.moved (State.WarmedH.refl s) hts
  have hkeep0 : ∀ q, q < H0.size → T.heap[q]? = H0[q]? := fun q hq => by rw [hT]; exact hS.2.1 q hq (Nat.not_le.mpr hq)
  have hthr1 : xo_T H0 (xb_s s T) := xo_T.moved (State.WarmedH.refl s) hthr
  have hthr' : xo_T (xb_s s T).heap (xb_s s T) := ⟨hthr1.1.kept hkeep0, hthr1.2.1.kept hkeep0, hthr1.2.2⟩
  have hown' : (xb_s s T).vm.findClass "FrameVault" = some m.cls := hown
  obtain ⟨cX, kX0, hfc, hkX0, -⟩ := Cond.instantiable_spec (hts' _ _ w3)
  obtain ⟨as, hstr⟩ := hthr1.2.2.1 z hz
  rw [hzi] at hstr
  have key : W p l e (xb_R R (xm_nc h - nc0) (xm_ns h - ns0)) (xb_s s T) m args below meth c H [] 0 0 (fun t => ∃ x, t.status = .running ∧ Ended t below (.threw x) ∧ (xb_s s T).WarmedH t.vm ∧ (xb_s s T).sameButNew ({ t with vm := s.vm } : State) [] 1 6 ∧ ∃ ce, t.heap[x]? = some ce ∧ ce.vm = .none ∧ s.vm.findClass (xt_E.getD q.1 "") = some ce.cls) (F0 m pc LS (st.map (xr_cv b H0.size))) := by
    rw [hk, hni] at d0
    refine W.newcK (n := 6) c1 c2 hown' (hts' _ _ w1) (hts' _ _ w3) (hts' _ _ w2) (g := F0 m pc LS (st.map (xr_cv b H0.size))) rfl d0 (by show 0 + 1 ≤ R.cells - (xm_nc h - nc0); omega) (by show 0 + 6 ≤ R.slots - (xm_ns h - ns0); omega) hfc rfl fun H' kC hkC e1 z1 o1 => ?_
    refine lv_dup (pc := pc + 3) c1 c2 d3 rfl ?_
    refine va_ldcS (pc := pc + 4) c1 c2 hown' hstr d4 ?_
    intro T2 hT2 X2
    obtain ⟨U, u1, u2, u3, u4, u5, ce, hce, hoc2⟩ := X2.ctorThrowS c1 htr (own := "FrameVault") (cls := xt_E.getD q.1 "") (names := ["java/lang/RuntimeException", "java/lang/Exception"]) (ic := xo_ic q.1) hown' w4 (fun n hn => by
        simp only [List.mem_cons, List.not_mem_nil, or_false] at hn
        rcases hn with rfl | rfl
        · exact w5
        · exact w6) (xo_own hts' hthr' hex) (fun x hx => by cases hx) (a := H.size) hfc hkC (by rw [hT2]; exact e1) (by show T.heap.size ≤ H.size; rw [hT]; exact Nat.le_refl _) (msg := .ref as) rfl
      (g := F0 m (pc + 6) LS (.ref as :: .ref H.size :: .ref H.size :: st.map (xr_cv b H0.size))) rfl (h4.1.trans c3.symm) rfl rfl (rest := st.map (xr_cv b H0.size)) rfl (by rw [c2, ← hic]; exact d6) (by rw [c2]; exact d9) (fun y hy => by
        rw [hhand] at c8
        rw [List.map_eq_nil_iff.mp c8] at hy
        cases hy) (by show 2 + 3 < R.frames; omega) (by
        show 2 * 0 + (((Value.ref H.size) :: st.map (xr_cv b H0.size)).map fun v => v.category).sum + (13 * (2 + 1) + 42) ≤ R.locals
        rw [List.map_cons, List.sum_cons, xr_words]
        show 2 * 0 + (1 + xm_words st) + (13 * (2 + 1) + 42) ≤ R.locals
        omega) c5
    exact ⟨U, u1, H.size, u2, u3, u4, u5, ce, hce, hoc2.vm, hoc2.cls⟩
  obtain ⟨t, st1, x, t1, t2, t3, t4, ce, hce, hcv, hcc2⟩ := key T hT X'
  have hkp := xb_keeps t4
  refine ⟨t, st1, ?_, ?_, locs, ⟨?_, ⟨?_, ?_, hS.2.2⟩, g4, ?_, g1, g2, hc0, hs0⟩, x, ⟨t1, t2, xb_warm' t3, ?_⟩, ce, hce, hcv, ?_⟩
  · show nc0 ≤ xm_nc h + 1; omega
  · show ns0 ≤ xm_ns h + 6; omega
  · refine va_P.kept hP fun k y hy => ?_
    have := (hP k y hy).lt
    rw [hkp.2 _ (by rw [hT]; exact this), hT]
  · have := hS.1
    have := hkp.1
    rw [hT] at this
    omega
  · intro y y1 y2
    have := hS.1
    rw [hkp.2 y (by rw [hT]; omega), hT]
    exact hS.2.1 y y1 y2
  · show xm_n h ≤ xm_nc h + 1 + 1; omega
  · have e1 : xm_nc (xm_lost h 1 6) - nc0 = (xm_nc h - nc0) + 1 := by show xm_nc h + 1 - nc0 = _; omega
    have e2 : xm_ns (xm_lost h 1 6) - ns0 = (xm_ns h - ns0) + 6 := by show xm_ns h + 6 - ns0 = _; omega
    show s.sameButNew _ locs (xm_nc (xm_lost h 1 6) - nc0) (xm_ns (xm_lost h 1 6) - ns0)
    rw [e1, e2]
    exact xb_back X t4
  · rw [(xb_warm' t3).alike.findClass]
    exact hcc2
end XT
