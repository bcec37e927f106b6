/-! FROM THE PURE RUN TO THE LAW'S ENTRY -/
/-- the heap at the law's entry: the script alone -/
def xp_h0 (L : Nat) (xs : Nat → Int32) : xm_H := (1, fun _ => (1, L), fun _ _ => .null, fun _ => xs, fun _ _ => 0, 0, 0)
def xp_W (args : Array Value) (s : State) : Prop := ∀ w ∈ flatC (Jvm.Cond.and given_1 narrow_1), w.before args s = true
def xp_need : List Cond := [.isRef (.static Bundle.tN "UNASSIGNED_STACK" Bundle.steD), .isRef (.static Bundle.tN "SUPPRESSED_SENTINEL" Bundle.listD)] ++ xt_Str.map (fun q => .exactly (.string "FrameVault" q.1) "java/lang/String") ++ ((List.range 3).flatMap fun i => ((List.range 3).filter fun j => !(i == j)).map fun j => .not (.castable (xt_E.getD i "") (xt_E.getD j "")))
set_option maxRecDepth 100000 in
theorem xp_need_all : xp_need.all (fun w => decide (w ∈ flatC (Jvm.Cond.and given_1 narrow_1))) = true := by decide +kernel
theorem xp_need_ok {args : Array Value} {s : State} (h : (Jvm.Cond.and given_1 narrow_1).before args s = true) : ∀ w ∈ xp_need, w.before args s = true := fun w hw =>
  flat_of_before _ h w (of_decide_eq_true (List.all_eq_true.mp xp_need_all w hw))
def xp_Stri : List (Nat × String × Nat) := [(67, "no such shape", 604), (81, "no time for a next frame", 642), (89, "no room for a frame", 652), (102, "no such place", 681), (105, "no sample", 688), (115, "no such frame", 704), (129, "nothing is known about this", 712), (135, "no such mode, or not so many slices", 721), (145, "the file would be too long", 765), (173, "no such byte", 777), (179, "no byte", 786), (185, "not 1 .. 8 bytes", 795), (192, "not so many bytes", 805), (194, "no such bytes", 813), (196, "fewer than no bytes", 814)]
theorem xp_Stri_all : xp_Stri.all (fun q => decide (lw_tbl[q.2.2]? = some (.stringRef "FrameVault" q.1 q.2.1))) = true := by decide +kernel
theorem xp_Str_eq : xt_Str = xp_Stri.map (fun q => (q.1, q.2.1)) := rfl
theorem xp_ls0 : lw_tbl[590]? = some (.laysStatic Bundle.tN "UNASSIGNED_STACK" Bundle.steD) := by decide +kernel
theorem xp_ls1 : lw_tbl[592]? = some (.laysStatic Bundle.tN "SUPPRESSED_SENTINEL" Bundle.listD) := by decide +kernel
theorem xp_exact {args : Array Value} {s : State} {t : Term} {cls : String} (h : (Cond.exactly t cls).before args s = true) : ∃ a, t.eval args s none [] s = some (.ref a) := by
  simp only [Cond.before, Cond.holds, Cond.value] at h
  cases hv : t.eval args s none [] s with
  | none => simp [hv] at h
  | some v =>
    cases v with
    | ref a => exact ⟨a, rfl⟩
    | null => cases hc : s.vm.findClass cls <;> simp [hv, hc] at h
    | _ => simp [hv] at h
theorem xp_thr {args : Array Value} {s : State} (hts : ∀ w ∈ lw_tbl, w.before args s = true) (hg : (Jvm.Cond.and given_1 narrow_1).before args s = true) : xo_T s.heap s := by
  have hn := xp_need_ok hg
  refine ⟨xo_Z.of (hts _ (List.mem_of_getElem? xp_ls0)) (hn _ (by simp [xp_need])), xo_Z.of (hts _ (List.mem_of_getElem? xp_ls1)) (hn _ (by simp [xp_need])), fun q hq => ?_, fun i j hi hj hij => ?_⟩
  · have h1 := hn (.exactly (.string "FrameVault" q.1) "java/lang/String") (by
      unfold xp_need
      refine List.mem_append_left _ (List.mem_append_right _ (List.mem_map.mpr ⟨q, hq, rfl⟩)))
    obtain ⟨a, ha⟩ := xp_exact h1
    rw [xp_Str_eq] at hq
    obtain ⟨z, hz, rfl⟩ := List.mem_map.mp hq
    have h2 := of_decide_eq_true (List.all_eq_true.mp xp_Stri_all z hz)
    exact ⟨a, vk_R.of (hts _ (List.mem_of_getElem? h2)) ha⟩
  · refine va_Nc.of (hn _ ?_)
    unfold xp_need
    refine List.mem_append_right _ (List.mem_flatMap.mpr ⟨i, List.mem_range.mpr hi, List.mem_map.mpr ⟨j, List.mem_filter.mpr ⟨List.mem_range.mpr hj, ?_⟩, rfl⟩⟩)
    simpa using hij
theorem xp_K {args : Array Value} {s : State} (hts : xk_W args s) : ∃ (dC : Nat → ClassId) (dI : Nat → Nat → Nat) (cI cJ : ClassId), va_K (dC, dI) xt_cl [(cI, .int), (cJ, .long)] s := by
  have h1 : ∀ ci : Nat, ∃ q : ClassId × (Nat → Nat), ∀ z, xt_cl[ci]? = some z → u_Kn s z.1 z.2.1 z.2.2 q.1 q.2 := fun ci => by
    cases hc : xt_cl[ci]? with
    | none => exact ⟨(0, fun _ => 0), fun z hz => by cases hz⟩
    | some z =>
      obtain ⟨w, -, -, q2, -⟩ := xk_L_get hc
      obtain ⟨cC, iS, hk⟩ := u_known (xk_lays hts hc) (fun _ h => h) (hts _ _ q2)
      exact ⟨(cC, iS), fun z' hz' => by cases hz'; exact hk⟩
  obtain ⟨f, hf⟩ := Classical.skolem.mp h1
  obtain ⟨cI, kI, coI, i1, i2, i3⟩ := Cond.arrayClass_spec (hts _ _ xk_arr_int)
  obtain ⟨cJ, kJ, coJ, j1, j2, j3⟩ := Cond.arrayClass_spec (hts _ _ xk_arr_long)
  refine ⟨fun c => (f c).1, fun c => (f c).2, cI, cJ, fun c q hq => hf c q hq, fun k q hk => ?_⟩
  match k with
  | 0 => cases hk; exact ⟨fun n z => ⟨fun k h => (by cases h), kI, i2, coI, i3⟩, i1⟩
  | 1 => cases hk; exact ⟨fun n z => ⟨fun k h => (by cases h), kJ, j2, coJ, j3⟩, j1⟩
  | k + 2 => cases hk
set_option maxHeartbeats 1000000 in
theorem xp_start {p : Program} {e : Env} {s : State} {m : MethodId} {below : List Frame} {meth : Method} {c : Code} (l : Launch) {b L : Nat} {xs : Nat → Int32} (htr : e.platform.stackTraces = false) (hname : meth.name = "law") (hhand : c.exceptionTable.toList = [])
    (hx : p.tables.exec = Jvm.exec) (hb : c.code = code) (hr : meth.sig.returnType = ret) (hml : c.maxLocals = 7) (hown : s.vm.findClass "FrameVaultLaw" = some m.cls) (hts : ∀ w ∈ lw_tbl, w.before #[Value.ref b] s = true) (hX : va_X b L xs s s.heap) (hbl : b < s.heap.size) (hlk : meth.locks = false) (hg : (Jvm.Cond.and given_1 narrow_1).before #[Value.ref b] s = true)
    {n : Nat} {hf : xm_H} (hrun : xm_run n 11 0 0 (xm_locals [.ref 0] 7) [] (xp_h0 L xs) = some (hf, .returned (some (.int 1)))) :
    W p l e room_1 s m #[Value.ref b] below meth c s.heap [] 0 0 (fun t => t.status = .running ∧ Ended t below (.returned (some (.int 1))) ∧ s.WarmedH t.vm ∧ s.sameButNew ({ t with vm := s.vm } : State) [] 1076 21520) (entryFrame m ([Value.ref b] : List Value).toArray 7) := by
  have hW := xk_W.of hts
  obtain ⟨dC, dI, cI, cJ, hK⟩ := xp_K hW
  have hS : va_S (fun q => s.heap.size ≤ q) s.heap s.heap [] := va_S.rf
  have C : xs_Ctx p b L xs s.heap dC dI cI cJ 0 s m #[Value.ref b] meth c := ⟨hx, hb, hml, hr, hlk, hown, hname, hW, hK, hX, hbl, by rw [hhand]; rfl, xp_thr hts hg, hS⟩
  have hR : xs_Room room_1 11 0 0 := ⟨by decide, by decide, by decide, by decide⟩
  have k := xs_sound (p := p) (l := l) (e := e) (b := b) (L := L) (xs := xs) (H0 := s.heap) (dC := dC) (dI := dI) (cI := cI) (cJ := cJ) htr n 11 0 0 _ [] _ _ hrun room_1 s m #[Value.ref b] below meth c 0 0 C hR (Nat.le_refl _) s.heap _ [] (Nat.le_refl _) (Nat.le_refl _)
    ⟨(fun k q hk => by cases hk), hS, Nat.le_refl _, Nat.le_refl _, rfl, rfl, Nat.zero_le _, Nat.zero_le _⟩ (xr_Ls.entry b s.heap.size (vs := [.ref 0]) (n := 7) (by decide))
  rw [lg_entry_eq]
  intro T hT X
  obtain ⟨t, st, n1, n2, locs, hrel, hE⟩ := k T hT X
  refine ⟨t, st, hE.1, hE.2.1, hE.2.2.1, hE.2.2.2.weaken (fun y hy hlt => ?_) ?_ ?_⟩
  · exact absurd hlt (Nat.not_lt.mpr (hrel.2.1.2.2 y hy))
  · have := hrel.2.2.2.2.2.2.1; show xm_nc hf - 0 ≤ 1076; omega
  · have := hrel.2.2.2.2.2.2.2; show xm_ns hf - 0 ≤ 21520; omega
