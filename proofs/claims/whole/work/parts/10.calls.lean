section XC
variable {p : Program} {l : Launch} {e : Env} {R : Room} {s : State} {m : MethodId} {args : Array Value} {below : List Frame} {meth : Method} {c : Code}
variable {b L : Nat} {xs : Nat → Int32} {H0 : Heap} {dC : Nat → ClassId} {dI : Nat → Nat → Nat} {cI cJ : ClassId} {mi nc0 ns0 : Nat}
theorem xs_found (hts : xk_W args s) {mj : Nat} (h0 : 0 < mj) (hlt : mj < 164) : ∃ mk methk ck, s.methodNamed? (xm_name mj) = some mk ∧ s.vm.method? mk = some methk ∧ methk.code = some ck ∧ ck.code = xm_code mj ∧ ck.maxLocals = xm_maxL mj ∧ methk.sig.returnType = xm_ret mj ∧ methk.locks = false ∧
    ck.exceptionTable.toList.map (fun x => (x.startPc, x.endPc, x.handlerPc, x.catchType)) = xm_hand mj ∧ parseMethodDescriptor (xm_name mj).desc = some methk.sig := by
  obtain ⟨h1, -⟩ := xk_M_word hts h0 hlt
  rcases h1 with ⟨h3, h2⟩ | h2
  · obtain ⟨mk, hn⟩ := Cond.code_named h2
    obtain ⟨methk, ck, q1, q2, q3, q4, q5, q6, q7, q8⟩ := Cond.code_spec hn h2
    refine ⟨mk, methk, ck, hn, q1, q2, q3, q4, q5, q6, ?_, q8⟩
    have h5 : ck.exceptionTable.size = 0 := by simpa [Array.isEmpty] using q7
    rw [show ck.exceptionTable.toList = [] from List.eq_nil_of_length_eq_zero (by simpa using h5)]
    exact h3.symm
  · obtain ⟨mk, methk, ck, q0, q1, q2, q3, q4, q5, q6, q7, q8⟩ := Cond.codeWith_spec h2
    exact ⟨mk, methk, ck, q0, q1, q2, q3, q4, q6, q7, q5, q8⟩
/-- what is known of another method's run -/
def xs_Run (p : Program) (l : Launch) (e : Env) (b L : Nat) (xs : Nat → Int32) (H0 : Heap) (dC : Nat → ClassId) (dI : Nat → Nat → Nat) (cI cJ : ClassId) (mj d : Nat) (vs : List Value) (h : xm_H) (res : xm_H × Outcome) : Prop :=
  ∀ (R : Room) (s : State) (m : MethodId) (args : Array Value) (below : List Frame) (meth : Method) (c : Code), xs_Ctx p b L xs H0 dC dI cI cJ mj s m args meth c → xs_Room R d (xm_nc h) (xm_ns h) → s.heap.size ≤ H0.size + xm_nc h →
    xs_At p l e R s m args below meth c b L xs H0 dC dI cI cJ mj (xm_nc h) (xm_ns h) res 0 (xm_locals vs (xm_maxL mj)) [] h
theorem xs_go (C : xs_Ctx p b L xs H0 dC dI cI cJ mi s m args meth c) {d : Nat} (hR : xs_Room R (d + 1) nc0 ns0) (hsz : s.heap.size ≤ H0.size + nc0) {h : xm_H} {res : xm_H × Outcome} {H : Heap} {LS : Array Slot} {locs : List Loc} {pc : Nat} {stk : List Value} (h1 : nc0 ≤ xm_nc h) (h2 : ns0 ≤ xm_ns h) (h3 : xs_Rel b L xs H0 dC dI cI cJ h H locs) {ls : List Value} (h4 : xr_Ls b H0.size LS (xm_maxL mi) ls)
    {T : State} (hT : T.heap = H) {vm₁ : Vm} (X₁ : Stand p l e R s m args below meth c (T.setVm vm₁) locs (xm_nc h - nc0) (xm_ns h - ns0)) {mj : Nat} (h0 : 0 < mj) (hlt : mj < 164) {mk : MethodId} (hmk : s.methodNamed? (xm_name mj) = some mk) {vs rest : List Value} (hw : xm_words rest ≤ 8) (hsl : (xm_slots vs).length ≤ xm_maxL mj) (hml : xm_maxL mj ≤ 14) {ig : Instr} (hdg : decode (xm_code mi) pc = .ok (ig, 3))
    (hstep : ∀ target, (∀ acts, Steps p.tables e below (doInvoke e ((T.setVm vm₁).setTop { F0 m pc LS stk with stack := rest.map (xr_cv b H0.size) }) acts mk (vs.map (xr_cv b H0.size)).toArray).1 target) → Steps p.tables e below (T.setTop (F0 m pc LS stk)) target)
    (hrun : xs_Run p l e b L xs H0 dC dI cI cJ mj d vs h res) :
    ∃ t, xs_Q b L xs H0 dC dI cI cJ ((T.setVm vm₁).calling { F0 m pc LS stk with stack := rest.map (xr_cv b H0.size) } mk (vs.map (xr_cv b H0.size)).toArray) (.java { F0 m pc LS stk with stack := rest.map (xr_cv b H0.size) } :: below) (xm_nc h) (xm_ns h) res t ∧ ∀ target, Steps p.tables e below t target → Steps p.tables e below (T.setTop (F0 m pc LS stk)) target := by
  obtain ⟨c1, c2, c3, c4, c5, c6, c7, hts, hK, hX, hbl, c8⟩ := id C
  obtain ⟨mk', methk, ck, q0, q1, q2, q3, q4, q5, q6, q7, q8⟩ := xs_found hts h0 hlt
  cases hmk.symm.trans q0
  have hW : s.WarmedH vm₁ := X₁.warmed
  have hmeth : vm₁.method? mk = some methk := by rw [hW.alike.method?]; exact q1
  have hnm : (T.setVm vm₁).methodNamed? (xm_name mj) = some mk := X₁.named q0
  have hplain : (T.setVm vm₁).plainMethod mk := State.plainMethod.of_named (plainFor_of_name (xk_M_word hts h0 hlt).2.2.1) hnm hmeth
  obtain ⟨hn1, hn2⟩ := name_of_methodNamed q0 q1
  have hsz2 : T.heap.size ≤ H0.size + xm_nc h := by
    have u : T.heap.size ≤ s.heap.size + (xm_nc h - nc0) := X₁.heapSize
    omega
  refine xw_into (R' := { frames := R.frames - 1, cells := R.cells - (xm_nc h - nc0), slots := R.slots - (xm_ns h - ns0), locals := R.locals - 33 }) X₁ (g := F0 m pc LS stk) rfl (h4.1.trans c3.symm) rfl (by rw [c2]; exact hdg) hstep hmeth q2 q6 hplain ?_ ?_ ?_ ?_ ?_
  · have := hR.1; show R.frames - 1 + 1 ≤ R.frames; omega
  · have := hR.2.1
    rw [xr_words, q4]
    show xm_words rest + (xm_maxL mj + 11) + (R.locals - 33) ≤ R.locals
    omega
  · have := hR.2.2.1; have := h3.2.2.2.2.2.2.1; show xm_nc h - nc0 + (R.cells - (xm_nc h - nc0)) ≤ R.cells; omega
  · have := hR.2.2.2; have := h3.2.2.2.2.2.2.2; show xm_ns h - ns0 + (R.slots - (xm_ns h - ns0)) ≤ R.slots; omega
  · have hK2 : va_K (dC, dI) xt_cl [(cI, .int), (cJ, .long)] ((T.setVm vm₁).calling { F0 m pc LS stk with stack := rest.map (xr_cv b H0.size) } mk (vs.map (xr_cv b H0.size)).toArray) := va_K.moved hW.alike hK
    have hX2 : va_X b L xs ((T.setVm vm₁).calling { F0 m pc LS stk with stack := rest.map (xr_cv b H0.size) } mk (vs.map (xr_cv b H0.size)).toArray) H0 := hX.moved hW.alike
    have hR2 : xs_Room { frames := R.frames - 1, cells := R.cells - (xm_nc h - nc0), slots := R.slots - (xm_ns h - ns0), locals := R.locals - 33 } d (xm_nc h) (xm_ns h) := by
      obtain ⟨r1, r2, r3, r4⟩ := hR
      refine ⟨?_, ?_, ?_, ?_⟩
      · show d ≤ R.frames - 1; omega
      · show 33 * d + 20 ≤ R.locals - 33; omega
      · show 1076 ≤ R.cells - (xm_nc h - nc0) + xm_nc h; omega
      · show 21520 ≤ R.slots - (xm_ns h - ns0) + xm_ns h; omega
    have hfc : ((T.setVm vm₁).calling { F0 m pc LS stk with stack := rest.map (xr_cv b H0.size) } mk (vs.map (xr_cv b H0.size)).toArray).vm.findClass (xm_name mj).cls = some mk.cls := findClass_of_methodNamed (s := T.setVm vm₁) hnm
    have k := hrun { frames := R.frames - 1, cells := R.cells - (xm_nc h - nc0), slots := R.slots - (xm_ns h - ns0), locals := R.locals - 33 } ((T.setVm vm₁).calling { F0 m pc LS stk with stack := rest.map (xr_cv b H0.size) } mk (vs.map (xr_cv b H0.size)).toArray) mk (vs.map (xr_cv b H0.size)).toArray (.java { F0 m pc LS stk with stack := rest.map (xr_cv b H0.size) } :: below) methk ck
      ⟨c1, q3, q4, q5, q6, hfc, hn1, xk_W.moved hW hts, hK2, hX2, hbl, q7, xo_T.moved hW c8.2.1, by show va_S _ H0 T.heap []; rw [hT]; exact ⟨h3.2.1.1, h3.2.1.2.1, fun _ h => by cases h⟩⟩ hR2 hsz2 H _ [] (Nat.le_refl _) (Nat.le_refl _) ⟨h3.1, ⟨h3.2.1.1, h3.2.1.2.1, fun _ h => by cases h⟩, h3.2.2⟩ (xr_Ls.entry b H0.size hsl)
    rw [Nat.sub_self, Nat.sub_self] at k
    rw [q4, lg_entry_eq, hT]
    exact k
/-- a call, and on -/
theorem xs_ret (C : xs_Ctx p b L xs H0 dC dI cI cJ mi s m args meth c) {res : xm_H × Outcome} {h h' : xm_H} {v : Option Value} {LS : Array Slot} {locs : List Loc} {pc : Nat} {stk : List Value} (h1 : nc0 ≤ xm_nc h) (h2 : ns0 ≤ xm_ns h) {ls : List Value} (h4 : xr_Ls b H0.size LS (xm_maxL mi) ls)
    {T : State} {vm₁ : Vm} (X₁ : Stand p l e R s m args below meth c (T.setVm vm₁) locs (xm_nc h - nc0) (xm_ns h - ns0)) (hS : va_S (fun q => H0.size ≤ q) H0 T.heap locs) {mk : MethodId} {a : Array Value} {rest : List Value} {ig : Instr} (hdg : decode (xm_code mi) pc = .ok (ig, 3)) {t : State}
    (hq : xs_Q b L xs H0 dC dI cI cJ ((T.setVm vm₁).calling { F0 m pc LS stk with stack := rest.map (xr_cv b H0.size) } mk a) (.java { F0 m pc LS stk with stack := rest.map (xr_cv b H0.size) } :: below) (xm_nc h) (xm_ns h) (h', .returned v) t)
    (hst : ∀ target, Steps p.tables e below t target → Steps p.tables e below (T.setTop (F0 m pc LS stk)) target)
    (k : xs_At p l e R s m args below meth c b L xs H0 dC dI cI cJ mi nc0 ns0 res (pc + 3) ls (v.toList ++ rest) h') :
    ∃ t, Steps p.tables e below (T.setTop (F0 m pc LS stk)) t ∧ xs_Q b L xs H0 dC dI cI cJ s below nc0 ns0 res t := by
  obtain ⟨n1, n2, L1, hrel, hE⟩ := hq
  dsimp only at n1 n2 hrel hE
  obtain ⟨T', X', e1, e2, e3⟩ := xw_back X₁ (g := F0 m pc LS stk) rfl (by rw [C.2.1]; exact hdg) hE
  have e4 : (xm_nc h - nc0) + (xm_nc h' - xm_nc h) = xm_nc h' - nc0 := by omega
  have e5 : (xm_ns h - ns0) + (xm_ns h' - xm_ns h) = xm_ns h' - ns0 := by omega
  rw [e4, e5] at X'
  have hrel2 : xs_Rel b L xs H0 dC dI cI cJ h' t.heap (locs ++ L1) := ⟨hrel.1, ⟨hrel.2.1.1, hrel.2.1.2.1, fun q hq => by
    rcases List.mem_append.mp hq with z | z
    · exact hS.2.2 q z
    · exact hrel.2.1.2.2 q z⟩, hrel.2.2⟩
  have e6 : (v.map (xr_cv b H0.size)).toList ++ rest.map (xr_cv b H0.size) = (v.toList ++ rest).map (xr_cv b H0.size) := by
    cases v <;> simp
  obtain ⟨t2, s2, q2⟩ := k t.heap LS (locs ++ L1) (by omega) (by omega) hrel2 h4 T' e1 X'
  refine ⟨t2, hst _ ?_, q2⟩
  rw [e3]
  rw [← e6] at s2
  exact s2
theorem xk_CI2_all : xt_CI.all (fun q => xk_at (xt_Mw.getD q.2.1 (0, 0)).1 (.code (xm_name q.2.1) (xm_code q.2.1) (xm_maxL q.2.1) none)) = true := by decide +kernel
theorem xs_stk (b B0 : Nat) (vs rest : List Value) : (vs.reverse ++ rest).map (xr_cv b B0) = (vs.map (xr_cv b B0)).reverse ++ rest.map (xr_cv b B0) := by
  rw [List.map_append, List.map_reverse]
theorem xs_len {y : MethodName} {n : Nat} (h : xk_par y n = true) : ∀ sig, parseMethodDescriptor y.desc = some sig → n = sig.parameters.length := fun sig hs => by
  unfold xk_par at h
  rw [decide_eq_true_eq, hs] at h
  exact (Option.some.inj h).symm
/-- what is to be shown behind a call whose walk has ended -/
def xs_Cont (p : Program) (l : Launch) (e : Env) (R : Room) (s : State) (m : MethodId) (args : Array Value) (below : List Frame) (meth : Method) (c : Code) (b L : Nat) (xs : Nat → Int32) (H0 : Heap) (dC : Nat → ClassId) (dI : Nat → Nat → Nat) (cI cJ : ClassId) (mi nc0 ns0 : Nat) (res : xm_H × Outcome) (pc : Nat) (ls stk rest : List Value) (h : xm_H) (res' : xm_H × Outcome) : Prop :=
  ∀ (LS : Array Slot) (locs : List Loc) (T : State) (vm₁ : Vm) (mk : MethodId) (a : Array Value) (t : State), nc0 ≤ xm_nc h → ns0 ≤ xm_ns h → va_S (fun q => H0.size ≤ q) H0 T.heap locs → xr_Ls b H0.size LS (xm_maxL mi) ls → Stand p l e R s m args below meth c (T.setVm vm₁) locs (xm_nc h - nc0) (xm_ns h - ns0) →
      xs_Q b L xs H0 dC dI cI cJ ((T.setVm vm₁).calling { F0 m pc LS (stk.map (xr_cv b H0.size)) with stack := rest.map (xr_cv b H0.size) } mk a) (.java { F0 m pc LS (stk.map (xr_cv b H0.size)) with stack := rest.map (xr_cv b H0.size) } :: below) (xm_nc h) (xm_ns h) res' t →
      (∀ target, Steps p.tables e below t target → Steps p.tables e below (T.setTop (F0 m pc LS (stk.map (xr_cv b H0.size)))) target) →
      ∃ t, Steps p.tables e below (T.setTop (F0 m pc LS (stk.map (xr_cv b H0.size)))) t ∧ xs_Q b L xs H0 dC dI cI cJ s below nc0 ns0 res t
theorem xs_Cont.ret (C : xs_Ctx p b L xs H0 dC dI cI cJ mi s m args meth c) {res : xm_H × Outcome} {h h' : xm_H} {v : Option Value} {pc : Nat} {ls stk rest : List Value} {ig : Instr} (hdg : decode (xm_code mi) pc = .ok (ig, 3))
    (k : xs_At p l e R s m args below meth c b L xs H0 dC dI cI cJ mi nc0 ns0 res (pc + 3) ls (v.toList ++ rest) h') : xs_Cont p l e R s m args below meth c b L xs H0 dC dI cI cJ mi nc0 ns0 res pc ls stk rest h (h', .returned v) :=
  fun LS locs T vm₁ mk a t h1 h2 hS h4 X₁ hq hst => xs_ret C h1 h2 h4 X₁ hS hdg hq hst k
theorem xs_callS (C : xs_Ctx p b L xs H0 dC dI cI cJ mi s m args meth c) {d : Nat} (hR : xs_Room R (d + 1) nc0 ns0) (hsz : s.heap.size ≤ H0.size + nc0) {res : xm_H × Outcome} {pc idx mj : Nat} {ls vs rest : List Value} {h : xm_H} {res' : xm_H × Outcome} {nest : Option String} {j js : Nat} (hf : xm_find xt_CS (xm_oc mi) idx 0 = some (mj, vs.length, nest, j, js)) (hw : xm_words rest ≤ 8) (hsl : (xm_slots vs).length ≤ xm_maxL mj) (hml : xm_maxL mj ≤ 14) (hd : decode (xm_code mi) pc = .ok (.invokestatic idx, 3))
    (hrun : xs_Run p l e b L xs H0 dC dI cI cJ mj d vs h res') (kk : xs_Cont p l e R s m args below meth c b L xs H0 dC dI cI cJ mi nc0 ns0 res pc ls (vs.reverse ++ rest) rest h res') : xs_At p l e R s m args below meth c b L xs H0 dC dI cI cJ mi nc0 ns0 res pc ls (vs.reverse ++ rest) h := by
  intro H LS locs h1 h2 h3 h4 T hT X
  obtain ⟨c1, c2, c3, c4, c5, c6, c7, hts, hK, hX, hbl, c8⟩ := id C
  have hF := List.all_eq_true.mp xk_CS_all _ (xm_find_mem hf)
  unfold xk_CSb at hF
  dsimp only at hF
  rw [xk_own mi] at hF
  simp only [Bool.and_eq_true, decide_eq_true_eq] at hF
  obtain ⟨k1, k2, k3, h0, hlt⟩ := hF
  obtain ⟨-, kini, -, kmh⟩ := xk_M_word hts h0 hlt
  obtain ⟨mk, methk, ck, q0, q1, q2, q3, q4, q5, q6, q7, q8⟩ := xs_found hts h0 hlt
  have hst : methk.isStatic = true := Cond.static_spec q0 q1 (hts _ _ k2)
  obtain ⟨kP, hkP, -⟩ := className_of_methodNamed q0
  have hini : kP.init = .initialized := Cond.initialized_spec (findClass_of_methodNamed q0) hkP kini
  obtain ⟨vm₁, X₁, hstep⟩ : ∃ vm', Stand p l e R s m args below meth c (T.setVm vm') locs (xm_nc h - nc0) (xm_ns h - ns0) ∧
      ∀ target, (∀ acts, Steps p.tables e below (doInvoke e ((T.setVm vm').setTop { F0 m pc LS ((vs.reverse ++ rest).map (xr_cv b H0.size)) with stack := rest.map (xr_cv b H0.size) }) acts mk (vs.map (xr_cv b H0.size)).toArray).1 target) → Steps p.tables e below (T.setTop (F0 m pc LS ((vs.reverse ++ rest).map (xr_cv b H0.size)))) target := by
    cases nest with
    | none => exact X.invokestatic c1 c6 (hts _ _ k1) q0 q1 hst hkP hini kmh (g := F0 m pc LS ((vs.reverse ++ rest).map (xr_cv b H0.size))) rfl (argsL := vs.map (xr_cv b H0.size)) (rest := rest.map (xr_cv b H0.size)) (by rw [List.length_map]; exact xs_len k3 _ q8) (xs_stk b H0.size vs rest) (by rw [c2]; exact hd)
    | some host => exact X.invokestaticNest c1 c6 (hts _ _ k1) q0 q1 hst hkP hini kmh (g := F0 m pc LS ((vs.reverse ++ rest).map (xr_cv b H0.size))) rfl (argsL := vs.map (xr_cv b H0.size)) (rest := rest.map (xr_cv b H0.size)) (by rw [List.length_map]; exact xs_len k3 _ q8) (xs_stk b H0.size vs rest) (by rw [c2]; exact hd)
  obtain ⟨t, hq, hst2⟩ := xs_go C hR hsz h1 h2 h3 h4 hT X₁ h0 hlt q0 hw hsl hml hd hstep hrun
  exact kk LS locs T vm₁ mk _ t h1 h2 (by rw [hT]; exact h3.2.1) h4 X₁ hq hst2
theorem xs_callI (C : xs_Ctx p b L xs H0 dC dI cI cJ mi s m args meth c) {d : Nat} (hR : xs_Room R (d + 1) nc0 ns0) (hsz : s.heap.size ≤ H0.size + nc0) {res : xm_H × Outcome} {pc idx mj : Nat} {ls vs rest : List Value} {h : xm_H} {res' : xm_H × Outcome} {a0 : Nat} {nest : Option String} {j js : Nat} (hf : xm_find xt_CI (xm_oc mi) idx 0 = some (mj, vs.length, nest, j, js)) (hw : xm_words rest ≤ 8) (hsl : (xm_slots (.ref a0 :: vs)).length ≤ xm_maxL mj) (hml : xm_maxL mj ≤ 14) (hd : decode (xm_code mi) pc = .ok (.invokespecial idx, 3))
    (hrun : xs_Run p l e b L xs H0 dC dI cI cJ mj d (.ref a0 :: vs) h res') (kk : xs_Cont p l e R s m args below meth c b L xs H0 dC dI cI cJ mi nc0 ns0 res pc ls ((Value.ref a0 :: vs).reverse ++ rest) rest h res') : xs_At p l e R s m args below meth c b L xs H0 dC dI cI cJ mi nc0 ns0 res pc ls ((Value.ref a0 :: vs).reverse ++ rest) h := by
  intro H LS locs h1 h2 h3 h4 T hT X
  obtain ⟨c1, c2, c3, c4, c5, c6, c7, hts, hK, hX, hbl, c8⟩ := id C
  have hF := List.all_eq_true.mp xk_CI_all _ (xm_find_mem hf)
  unfold xk_CIb at hF
  dsimp only at hF
  rw [xk_own mi] at hF
  simp only [Bool.and_eq_true, decide_eq_true_eq] at hF
  obtain ⟨k1, k2, k3, ⟨h0, hlt⟩, kn, khd, krt⟩ := hF
  obtain ⟨kcode, kini, -, kmh⟩ := xk_M_word hts h0 hlt
  have kc : (Cond.code (xm_name mj) (xm_code mj) (xm_maxL mj) none).before args s = true := hts _ _ (List.all_eq_true.mp xk_CI2_all _ (xm_find_mem hf))
  obtain ⟨a', ha⟩ := xs_cvr b H0.size a0
  have hpl : e.platform.magicAccessors = ({} : Platform).magicAccessors := by rw [X.admits.platform]
  have hstk : ((Value.ref a0 :: vs).reverse ++ rest).map (xr_cv b H0.size) = (vs.map (xr_cv b H0.size)).reverse ++ .ref a' :: rest.map (xr_cv b H0.size) := by
    rw [List.reverse_cons, List.append_assoc, List.map_append, List.map_reverse, List.map_append, List.map_cons, ha]
    rfl
  have ea : (Value.ref a' :: vs.map (xr_cv b H0.size)) = (Value.ref a0 :: vs).map (xr_cv b H0.size) := by rw [List.map_cons, ha]
  obtain ⟨mk, vm₁, hnamed, hW₁, hstep⟩ : ∃ mk vm₁, s.methodNamed? (xm_name mj) = some mk ∧ s.WarmedH vm₁ ∧
      ∀ target, (∀ acts, Steps p.tables e below (doInvoke e ((T.setVm vm₁).setTop { F0 m pc LS (((Value.ref a0 :: vs).reverse ++ rest).map (xr_cv b H0.size)) with stack := rest.map (xr_cv b H0.size) }) acts mk ((Value.ref a0 :: vs).map (xr_cv b H0.size)).toArray).1 target) → Steps p.tables e below (T.setTop (F0 m pc LS (((Value.ref a0 :: vs).reverse ++ rest).map (xr_cv b H0.size)))) target := by
    rw [← ea]
    cases nest with
    | none =>
      obtain ⟨mk, methM, cM, kP, vm₁, hnamed, hmethM, hcodeM, -, hlocalsM, -, hkP, -, hW₁, hstep⟩ := Steps.initColdArgs (e := e) X.here c1 X.warmed hpl c6 kn kmh (hts _ _ k1) (hts _ _ k2) kc (f := F0 m pc LS (((Value.ref a0 :: vs).reverse ++ rest).map (xr_cv b H0.size))) rfl (fun sig hs => by rw [List.length_map]; exact xs_len k3 sig hs) hstk (by rw [c2]; exact hd)
      exact ⟨mk, vm₁, hnamed, hW₁, hstep⟩
    | some host =>
      obtain ⟨mk, methM, cM, kP, vm₁, hnamed, hmethM, hcodeM, -, hlocalsM, -, hkP, -, hW₁, hstep⟩ := Steps.initColdArgsNest (e := e) X.here c1 X.warmed hpl c6 kn kmh (hts _ _ k1) (hts _ _ k2) kc (f := F0 m pc LS (((Value.ref a0 :: vs).reverse ++ rest).map (xr_cv b H0.size))) rfl (fun sig hs => by rw [List.length_map]; exact xs_len k3 sig hs) hstk (by rw [c2]; exact hd)
      exact ⟨mk, vm₁, hnamed, hW₁, hstep⟩
  have X₁ := X.noted hW₁
  obtain ⟨t, hq, hst2⟩ := xs_go C hR hsz h1 h2 h3 h4 hT X₁ h0 hlt hnamed hw hsl hml hd hstep hrun
  exact kk LS locs T vm₁ mk _ t h1 h2 (by rw [hT]; exact h3.2.1) h4 X₁ hq hst2
theorem xs_callV (C : xs_Ctx p b L xs H0 dC dI cI cJ mi s m args meth c) {d : Nat} (hR : xs_Room R (d + 1) nc0 ns0) (hsz : s.heap.size ≤ H0.size + nc0) {res : xm_H × Outcome} {pc idx mj : Nat} {ls vs rest : List Value} {h : xm_H} {res' : xm_H × Outcome} {q0 ci : Nat} {r : Option (MethodName × String)} {j1 j2 j3 j4 j5 : Nat} (hs : xm_S h (q0 + 1) = (0, ci)) (ha : q0 + 1 < xm_n h) (hf : xm_find xt_CV (xm_oc mi) idx ci = some (mj, vs.length, r, j1, j2, j3, j4, j5)) (hw : xm_words rest ≤ 8) (hsl : (xm_slots (.ref (q0 + 1) :: vs)).length ≤ xm_maxL mj) (hml : xm_maxL mj ≤ 14) (hd : decode (xm_code mi) pc = .ok (.invokevirtual idx, 3))
    (hrun : xs_Run p l e b L xs H0 dC dI cI cJ mj d (.ref (q0 + 1) :: vs) h res') (kk : xs_Cont p l e R s m args below meth c b L xs H0 dC dI cI cJ mi nc0 ns0 res pc ls ((Value.ref (q0 + 1) :: vs).reverse ++ rest) rest h res') : xs_At p l e R s m args below meth c b L xs H0 dC dI cI cJ mi nc0 ns0 res pc ls ((Value.ref (q0 + 1) :: vs).reverse ++ rest) h := by
  intro H LS locs h1 h2 h3 h4 T hT X
  obtain ⟨c1, c2, c3, c4, c5, c6, c7, hts, hK, hX, hbl, c8⟩ := id C
  have hF := List.all_eq_true.mp xk_CV_all _ (xm_find_mem hf)
  unfold xk_CVb at hF
  dsimp only at hF
  rw [xk_own mi] at hF
  have hstk : ((Value.ref (q0 + 1) :: vs).reverse ++ rest).map (xr_cv b H0.size) = (vs.map (xr_cv b H0.size)).reverse ++ .ref (H0.size + q0) :: rest.map (xr_cv b H0.size) := by
    rw [List.reverse_cons, List.append_assoc, List.map_append, List.map_reverse, List.map_append, List.map_cons]
    rfl
  have ea : (Value.ref (H0.size + q0) :: vs.map (xr_cv b H0.size)) = (Value.ref (q0 + 1) :: vs).map (xr_cv b H0.size) := rfl
  cases hc : xt_cl[ci]? with
  | none => rw [hc] at hF; cases hF
  | some z =>
    rw [hc] at hF
    simp only [Bool.and_eq_true, decide_eq_true_eq] at hF
    obtain ⟨kI, ⟨h0, hlt⟩, khd, hV⟩ := hF
    obtain ⟨kcode, kini, -, kmh⟩ := xk_M_word hts h0 hlt
    obtain ⟨cell, g1, g2, g3⟩ := va_recv hK h3.1 hc (xs_cellO hs ha)
    have hobj : ∀ w, cell.vm ≠ .statics w := fun w hw => by rw [hw] at g2; cases g2
    obtain ⟨mk, methM, hnamed, hmethM, hstM, habM⟩ := Cond.instanceMethod_spec (hts _ _ kI)
    obtain ⟨mk', methM', cM, y0, y1, -, -, -, -, -, -, hsigM⟩ := xs_found hts h0 hlt
    cases hnamed.symm.trans y0
    cases hmethM.symm.trans y1
    obtain ⟨vm₁, X₁, hstep⟩ : ∃ vm', Stand p l e R s m args below meth c (T.setVm vm') locs (xm_nc h - nc0) (xm_ns h - ns0) ∧
      ∀ target, (∀ acts, Steps p.tables e below (doInvoke e ((T.setVm vm').setTop { F0 m pc LS (((Value.ref (q0 + 1) :: vs).reverse ++ rest).map (xr_cv b H0.size)) with stack := rest.map (xr_cv b H0.size) }) acts mk ((Value.ref (q0 + 1) :: vs).map (xr_cv b H0.size)).toArray).1 target) → Steps p.tables e below (T.setTop (F0 m pc LS (((Value.ref (q0 + 1) :: vs).reverse ++ rest).map (xr_cv b H0.size)))) target := by
      rw [← ea]
      cases r with
      | none =>
        dsimp only at hV
        simp only [Bool.and_eq_true, decide_eq_true_eq] at hV
        obtain ⟨k1, k2, k3⟩ := hV
        obtain ⟨cc2, r2, m2, y1, y2, y3, y4, kP, hkP, hkPi⟩ := Cond.selects_spec (hts _ _ k2)
        cases g3.symm.trans y1
        cases (State.methodFound?_of_named hnamed kmh).symm.trans y2
        cases hnamed.symm.trans y3
        have hselP : selectMethod e.platform s.vm cell.cls mk = .method mk := by rw [Launch.admits_selectMethod X.admits]; exact y4
        exact X.invokevirtual c1 c6 (hts _ _ k1) hnamed hmethM hstM hkP hkPi kmh (a := H0.size + q0) (cell := cell) (by rw [hT]; exact g1) hobj hselP hmethM habM hkP hkPi (g := F0 m pc LS (((Value.ref (q0 + 1) :: vs).reverse ++ rest).map (xr_cv b H0.size))) rfl (argsL := vs.map (xr_cv b H0.size)) (rest := rest.map (xr_cv b H0.size)) (by rw [List.length_map]; exact xs_len k3 _ hsigM) hstk (by rw [c2]; exact hd)
      | some r =>
        dsimp only at hV
        simp only [Bool.and_eq_true, Bool.or_eq_true, decide_eq_true_eq] at hV
        obtain ⟨k1, k2, k3, k5, k4, k6⟩ := hV
        have hD : va_Decl s ⟨r.2, r.1.name, r.1.desc⟩ := by
          rcases k6 with kd | kd
          · exact va_Decl.abs (va_Nw.of rfl (hts _ _ kd))
          · rw [kd]
            exact ⟨mk, methM, hnamed, hmethM, hstM, hsigM⟩
        obtain ⟨r0, rr, hn, hrm, hstR, hsigR⟩ := hD
        obtain ⟨cn, ck, r1, hcn, hck, hni, hff, hn1⟩ := Cond.sameMethod_found (hts _ _ k2)
        cases hn.symm.trans hn1
        obtain ⟨cc2, r2, m2, y1, y2, y3, y4, kP, hkP, hkPi⟩ := Cond.selects_spec (hts _ _ k3)
        cases g3.symm.trans y1
        cases hff.symm.trans y2
        cases hnamed.symm.trans y3
        have hselP : selectMethod e.platform s.vm cell.cls r0 = .method mk := by rw [Launch.admits_selectMethod X.admits]; exact y4
        exact X.invokevirtualUp c1 c6 (hts _ _ k1) (hts _ _ k2) k4 hn hrm hstR (a := H0.size + q0) (cell := cell) (by rw [hT]; exact g1) hobj hselP hmethM habM hkP hkPi (g := F0 m pc LS (((Value.ref (q0 + 1) :: vs).reverse ++ rest).map (xr_cv b H0.size))) rfl (argsL := vs.map (xr_cv b H0.size)) (rest := rest.map (xr_cv b H0.size)) (by rw [List.length_map]; exact xs_len k5 _ hsigR) hstk (by rw [c2]; exact hd)
    obtain ⟨t, hq, hst2⟩ := xs_go C hR hsz h1 h2 h3 h4 hT X₁ h0 hlt hnamed hw hsl hml hd hstep hrun
    exact kk LS locs T vm₁ mk _ t h1 h2 (by rw [hT]; exact h3.2.1) h4 X₁ hq hst2
end XC
