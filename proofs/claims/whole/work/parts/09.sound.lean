/-! SOUNDNESS: what the abstract machine comes to, the machine comes to -/
def xs_Rel (b L : Nat) (xs : Nat → Int32) (H0 : Heap) (dC : Nat → ClassId) (dI : Nat → Nat → Nat) (cI cJ : ClassId) (h : xm_H) (H : Heap) (locs : List Loc) : Prop :=
  va_P (dC, dI) xt_cl (xr_ws b H0.size cI cJ h) H ∧ va_S (fun q => H0.size ≤ q) H0 H locs ∧ 1 ≤ xm_n h ∧ xm_n h ≤ xm_nc h + 1 ∧ xm_S h 0 = (1, L) ∧ xm_A h 0 = xs ∧ xm_nc h ≤ 1076 ∧ xm_ns h ≤ 21520
/-- a frame of the method mi -/
def xs_Ctx (p : Program) (b L : Nat) (xs : Nat → Int32) (H0 : Heap) (dC : Nat → ClassId) (dI : Nat → Nat → Nat) (cI cJ : ClassId) (mi : Nat) (s : State) (m : MethodId) (args : Array Value) (meth : Method) (c : Code) : Prop :=
  p.tables.exec = Jvm.exec ∧ c.code = xm_code mi ∧ c.maxLocals = xm_maxL mi ∧ meth.sig.returnType = xm_ret mi ∧ meth.locks = false ∧ s.vm.findClass (xm_name mi).cls = some m.cls ∧ meth.name = (xm_name mi).name ∧
  xk_W args s ∧ va_K (dC, dI) xt_cl [(cI, .int), (cJ, .long)] s ∧ va_X b L xs s H0 ∧ b < H0.size ∧
  c.exceptionTable.toList.map (fun x => (x.startPc, x.endPc, x.handlerPc, x.catchType)) = xm_hand mi ∧ xo_T H0 s ∧ va_S (fun q => H0.size ≤ q) H0 s.heap []
def xs_Room (R : Room) (d nc0 ns0 : Nat) : Prop := d ≤ R.frames ∧ 33 * d + 20 ≤ R.locals ∧ 1076 ≤ R.cells + nc0 ∧ 21520 ≤ R.slots + ns0
/-- an exception of the class 'ex' -/
def xs_Exc (ex : Nat) (x : Addr) (t : State) : Prop := ∃ cell : Cell, t.heap[x]? = some cell ∧ cell.vm = .none ∧ t.vm.findClass (xt_E.getD ex "") = some cell.cls
def xs_Q (b L : Nat) (xs : Nat → Int32) (H0 : Heap) (dC : Nat → ClassId) (dI : Nat → Nat → Nat) (cI cJ : ClassId) (s : State) (below : List Frame) (nc0 ns0 : Nat) (res : xm_H × Outcome) : State → Prop := fun t =>
  nc0 ≤ xm_nc res.1 ∧ ns0 ≤ xm_ns res.1 ∧ ∃ (locs : List Loc), xs_Rel b L xs H0 dC dI cI cJ res.1 t.heap locs ∧ match res.2 with
    | .returned v => xw_End s below (.returned (v.map (xr_cv b H0.size))) locs (xm_nc res.1 - nc0) (xm_ns res.1 - ns0) t
    | .threw ex => ∃ x, xw_End s below (.threw x) locs (xm_nc res.1 - nc0) (xm_ns res.1 - ns0) t ∧ xs_Exc ex x t
section XS
variable {p : Program} {l : Launch} {e : Env} {R : Room} {s : State} {m : MethodId} {args : Array Value} {below : List Frame} {meth : Method} {c : Code}
variable {b L : Nat} {xs : Nat → Int32} {H0 : Heap} {dC : Nat → ClassId} {dI : Nat → Nat → Nat} {cI cJ : ClassId} {mi nc0 ns0 : Nat}
def xs_At (p : Program) (l : Launch) (e : Env) (R : Room) (s : State) (m : MethodId) (args : Array Value) (below : List Frame) (meth : Method) (c : Code) (b L : Nat) (xs : Nat → Int32) (H0 : Heap) (dC : Nat → ClassId) (dI : Nat → Nat → Nat) (cI cJ : ClassId) (mi nc0 ns0 : Nat) (res : xm_H × Outcome) (pc : Nat) (ls st : List Value) (h : xm_H) : Prop :=
  ∀ (H : Heap) (LS : Array Slot) (locs : List Loc), nc0 ≤ xm_nc h → ns0 ≤ xm_ns h → xs_Rel b L xs H0 dC dI cI cJ h H locs → xr_Ls b H0.size LS (xm_maxL mi) ls →
    W p l e R s m args below meth c H locs (xm_nc h - nc0) (xm_ns h - ns0) (xs_Q b L xs H0 dC dI cI cJ s below nc0 ns0 res) (F0 m pc LS (st.map (xr_cv b H0.size)))
theorem xs_iadd (C : xs_Ctx p b L xs H0 dC dI cI cJ mi s m args meth c) {res : xm_H × Outcome} {pc : Nat} {ls st : List Value} {h : xm_H} {x y : Int32} (hd : decode (xm_code mi) pc = .ok (.iadd, 1)) (k : xs_At p l e R s m args below meth c b L xs H0 dC dI cI cJ mi nc0 ns0 res (pc + 1) ls (.int (x + y) :: st) h) : xs_At p l e R s m args below meth c b L xs H0 dC dI cI cJ mi nc0 ns0 res pc ls (.int y :: .int x :: st) h := fun H LS locs h1 h2 h3 h4 => lv_iadd C.1 C.2.1 hd (k H LS locs h1 h2 h3 h4)
theorem xs_isub (C : xs_Ctx p b L xs H0 dC dI cI cJ mi s m args meth c) {res : xm_H × Outcome} {pc : Nat} {ls st : List Value} {h : xm_H} {x y : Int32} (hd : decode (xm_code mi) pc = .ok (.isub, 1)) (k : xs_At p l e R s m args below meth c b L xs H0 dC dI cI cJ mi nc0 ns0 res (pc + 1) ls (.int (x - y) :: st) h) : xs_At p l e R s m args below meth c b L xs H0 dC dI cI cJ mi nc0 ns0 res pc ls (.int y :: .int x :: st) h := fun H LS locs h1 h2 h3 h4 => lv_isub C.1 C.2.1 hd (k H LS locs h1 h2 h3 h4)
theorem xs_imul (C : xs_Ctx p b L xs H0 dC dI cI cJ mi s m args meth c) {res : xm_H × Outcome} {pc : Nat} {ls st : List Value} {h : xm_H} {x y : Int32} (hd : decode (xm_code mi) pc = .ok (.imul, 1)) (k : xs_At p l e R s m args below meth c b L xs H0 dC dI cI cJ mi nc0 ns0 res (pc + 1) ls (.int (x * y) :: st) h) : xs_At p l e R s m args below meth c b L xs H0 dC dI cI cJ mi nc0 ns0 res pc ls (.int y :: .int x :: st) h := fun H LS locs h1 h2 h3 h4 => lv_imul C.1 C.2.1 hd (k H LS locs h1 h2 h3 h4)
theorem xs_iand (C : xs_Ctx p b L xs H0 dC dI cI cJ mi s m args meth c) {res : xm_H × Outcome} {pc : Nat} {ls st : List Value} {h : xm_H} {x y : Int32} (hd : decode (xm_code mi) pc = .ok (.iand, 1)) (k : xs_At p l e R s m args below meth c b L xs H0 dC dI cI cJ mi nc0 ns0 res (pc + 1) ls (.int (x &&& y) :: st) h) : xs_At p l e R s m args below meth c b L xs H0 dC dI cI cJ mi nc0 ns0 res pc ls (.int y :: .int x :: st) h := fun H LS locs h1 h2 h3 h4 => lv_iand C.1 C.2.1 hd (k H LS locs h1 h2 h3 h4)
theorem xs_ior (C : xs_Ctx p b L xs H0 dC dI cI cJ mi s m args meth c) {res : xm_H × Outcome} {pc : Nat} {ls st : List Value} {h : xm_H} {x y : Int32} (hd : decode (xm_code mi) pc = .ok (.ior, 1)) (k : xs_At p l e R s m args below meth c b L xs H0 dC dI cI cJ mi nc0 ns0 res (pc + 1) ls (.int (x ||| y) :: st) h) : xs_At p l e R s m args below meth c b L xs H0 dC dI cI cJ mi nc0 ns0 res pc ls (.int y :: .int x :: st) h := fun H LS locs h1 h2 h3 h4 => lv_ior C.1 C.2.1 hd (k H LS locs h1 h2 h3 h4)
theorem xs_ixor (C : xs_Ctx p b L xs H0 dC dI cI cJ mi s m args meth c) {res : xm_H × Outcome} {pc : Nat} {ls st : List Value} {h : xm_H} {x y : Int32} (hd : decode (xm_code mi) pc = .ok (.ixor, 1)) (k : xs_At p l e R s m args below meth c b L xs H0 dC dI cI cJ mi nc0 ns0 res (pc + 1) ls (.int (x ^^^ y) :: st) h) : xs_At p l e R s m args below meth c b L xs H0 dC dI cI cJ mi nc0 ns0 res pc ls (.int y :: .int x :: st) h := fun H LS locs h1 h2 h3 h4 => lv_ixor C.1 C.2.1 hd (k H LS locs h1 h2 h3 h4)
theorem xs_ishl (C : xs_Ctx p b L xs H0 dC dI cI cJ mi s m args meth c) {res : xm_H × Outcome} {pc : Nat} {ls st : List Value} {h : xm_H} {x y : Int32} (hd : decode (xm_code mi) pc = .ok (.ishl, 1)) (k : xs_At p l e R s m args below meth c b L xs H0 dC dI cI cJ mi nc0 ns0 res (pc + 1) ls (.int (x <<< (y &&& 31)) :: st) h) : xs_At p l e R s m args below meth c b L xs H0 dC dI cI cJ mi nc0 ns0 res pc ls (.int y :: .int x :: st) h := fun H LS locs h1 h2 h3 h4 => lv_ishl C.1 C.2.1 hd (k H LS locs h1 h2 h3 h4)
theorem xs_ishr (C : xs_Ctx p b L xs H0 dC dI cI cJ mi s m args meth c) {res : xm_H × Outcome} {pc : Nat} {ls st : List Value} {h : xm_H} {x y : Int32} (hd : decode (xm_code mi) pc = .ok (.ishr, 1)) (k : xs_At p l e R s m args below meth c b L xs H0 dC dI cI cJ mi nc0 ns0 res (pc + 1) ls (.int (x >>> (y &&& 31)) :: st) h) : xs_At p l e R s m args below meth c b L xs H0 dC dI cI cJ mi nc0 ns0 res pc ls (.int y :: .int x :: st) h := fun H LS locs h1 h2 h3 h4 => lv_ishr C.1 C.2.1 hd (k H LS locs h1 h2 h3 h4)
theorem xs_idiv (C : xs_Ctx p b L xs H0 dC dI cI cJ mi s m args meth c) {res : xm_H × Outcome} {pc : Nat} {ls st : List Value} {h : xm_H} {x y : Int32} (hy : ¬ y = 0) (hd : decode (xm_code mi) pc = .ok (.idiv, 1)) (k : xs_At p l e R s m args below meth c b L xs H0 dC dI cI cJ mi nc0 ns0 res (pc + 1) ls (.int (x / y) :: st) h) : xs_At p l e R s m args below meth c b L xs H0 dC dI cI cJ mi nc0 ns0 res pc ls (.int y :: .int x :: st) h := fun H LS locs h1 h2 h3 h4 => lv_idiv C.1 C.2.1 hd hy (k H LS locs h1 h2 h3 h4)
theorem xs_irem (C : xs_Ctx p b L xs H0 dC dI cI cJ mi s m args meth c) {res : xm_H × Outcome} {pc : Nat} {ls st : List Value} {h : xm_H} {x y : Int32} (hy : ¬ y = 0) (hd : decode (xm_code mi) pc = .ok (.irem, 1)) (k : xs_At p l e R s m args below meth c b L xs H0 dC dI cI cJ mi nc0 ns0 res (pc + 1) ls (.int (x - x / y * y) :: st) h) : xs_At p l e R s m args below meth c b L xs H0 dC dI cI cJ mi nc0 ns0 res pc ls (.int y :: .int x :: st) h := fun H LS locs h1 h2 h3 h4 => lv_irem C.1 C.2.1 hd hy (k H LS locs h1 h2 h3 h4)
theorem xs_ineg (C : xs_Ctx p b L xs H0 dC dI cI cJ mi s m args meth c) {res : xm_H × Outcome} {pc : Nat} {ls st : List Value} {h : xm_H} {x : Int32} (hd : decode (xm_code mi) pc = .ok (.ineg, 1)) (k : xs_At p l e R s m args below meth c b L xs H0 dC dI cI cJ mi nc0 ns0 res (pc + 1) ls (.int (-x) :: st) h) : xs_At p l e R s m args below meth c b L xs H0 dC dI cI cJ mi nc0 ns0 res pc ls (.int x :: st) h := fun H LS locs h1 h2 h3 h4 => lv_ineg C.1 C.2.1 hd (k H LS locs h1 h2 h3 h4)
theorem xs_i2l (C : xs_Ctx p b L xs H0 dC dI cI cJ mi s m args meth c) {res : xm_H × Outcome} {pc : Nat} {ls st : List Value} {h : xm_H} {x : Int32} (hd : decode (xm_code mi) pc = .ok (.i2l, 1)) (k : xs_At p l e R s m args below meth c b L xs H0 dC dI cI cJ mi nc0 ns0 res (pc + 1) ls (.long x.toInt64 :: st) h) : xs_At p l e R s m args below meth c b L xs H0 dC dI cI cJ mi nc0 ns0 res pc ls (.int x :: st) h := fun H LS locs h1 h2 h3 h4 => lv_i2l C.1 C.2.1 hd rfl (k H LS locs h1 h2 h3 h4)
theorem xs_l2i (C : xs_Ctx p b L xs H0 dC dI cI cJ mi s m args meth c) {res : xm_H × Outcome} {pc : Nat} {ls st : List Value} {h : xm_H} {x : Int64} (hd : decode (xm_code mi) pc = .ok (.l2i, 1)) (k : xs_At p l e R s m args below meth c b L xs H0 dC dI cI cJ mi nc0 ns0 res (pc + 1) ls (.int x.toInt32 :: st) h) : xs_At p l e R s m args below meth c b L xs H0 dC dI cI cJ mi nc0 ns0 res pc ls (.long x :: st) h := fun H LS locs h1 h2 h3 h4 => lv_l2i C.1 C.2.1 hd rfl (k H LS locs h1 h2 h3 h4)
theorem xs_land (C : xs_Ctx p b L xs H0 dC dI cI cJ mi s m args meth c) {res : xm_H × Outcome} {pc : Nat} {ls st : List Value} {h : xm_H} {x y : Int64} (hd : decode (xm_code mi) pc = .ok (.land, 1)) (k : xs_At p l e R s m args below meth c b L xs H0 dC dI cI cJ mi nc0 ns0 res (pc + 1) ls (.long (x &&& y) :: st) h) : xs_At p l e R s m args below meth c b L xs H0 dC dI cI cJ mi nc0 ns0 res pc ls (.long y :: .long x :: st) h := fun H LS locs h1 h2 h3 h4 => lv_land C.1 C.2.1 hd (k H LS locs h1 h2 h3 h4)
theorem xs_lor (C : xs_Ctx p b L xs H0 dC dI cI cJ mi s m args meth c) {res : xm_H × Outcome} {pc : Nat} {ls st : List Value} {h : xm_H} {x y : Int64} (hd : decode (xm_code mi) pc = .ok (.lor, 1)) (k : xs_At p l e R s m args below meth c b L xs H0 dC dI cI cJ mi nc0 ns0 res (pc + 1) ls (.long (x ||| y) :: st) h) : xs_At p l e R s m args below meth c b L xs H0 dC dI cI cJ mi nc0 ns0 res pc ls (.long y :: .long x :: st) h := fun H LS locs h1 h2 h3 h4 => lv_lor C.1 C.2.1 hd (k H LS locs h1 h2 h3 h4)
theorem xs_lshl (C : xs_Ctx p b L xs H0 dC dI cI cJ mi s m args meth c) {res : xm_H × Outcome} {pc : Nat} {ls st : List Value} {h : xm_H} {x : Int64} {y : Int32} (hd : decode (xm_code mi) pc = .ok (.lshl, 1)) (k : xs_At p l e R s m args below meth c b L xs H0 dC dI cI cJ mi nc0 ns0 res (pc + 1) ls (.long (x <<< (y.toInt64 &&& 63)) :: st) h) : xs_At p l e R s m args below meth c b L xs H0 dC dI cI cJ mi nc0 ns0 res pc ls (.int y :: .long x :: st) h := fun H LS locs h1 h2 h3 h4 => lv_lshl C.1 C.2.1 hd rfl (k H LS locs h1 h2 h3 h4)
theorem xs_lshr (C : xs_Ctx p b L xs H0 dC dI cI cJ mi s m args meth c) {res : xm_H × Outcome} {pc : Nat} {ls st : List Value} {h : xm_H} {x : Int64} {y : Int32} (hd : decode (xm_code mi) pc = .ok (.lshr, 1)) (k : xs_At p l e R s m args below meth c b L xs H0 dC dI cI cJ mi nc0 ns0 res (pc + 1) ls (.long (x >>> (y.toInt64 &&& 63)) :: st) h) : xs_At p l e R s m args below meth c b L xs H0 dC dI cI cJ mi nc0 ns0 res pc ls (.int y :: .long x :: st) h := fun H LS locs h1 h2 h3 h4 => lv_lshr C.1 C.2.1 hd rfl (k H LS locs h1 h2 h3 h4)
theorem xs_lcmp (C : xs_Ctx p b L xs H0 dC dI cI cJ mi s m args meth c) {res : xm_H × Outcome} {pc : Nat} {ls st : List Value} {h : xm_H} {x y : Int64} (hd : decode (xm_code mi) pc = .ok (.lcmp, 1)) (k : xs_At p l e R s m args below meth c b L xs H0 dC dI cI cJ mi nc0 ns0 res (pc + 1) ls (.int (lg_cmp x y) :: st) h) : xs_At p l e R s m args below meth c b L xs H0 dC dI cI cJ mi nc0 ns0 res pc ls (.long y :: .long x :: st) h := fun H LS locs h1 h2 h3 h4 => W.lcmp C.1 C.2.1 hd (k H LS locs h1 h2 h3 h4)
theorem xs_iconst (C : xs_Ctx p b L xs H0 dC dI cI cJ mi s m args meth c) {res : xm_H × Outcome} {pc : Nat} {ls st : List Value} {h : xm_H} {n : Int} (hd : decode (xm_code mi) pc = .ok (.iconst n, 1)) (k : xs_At p l e R s m args below meth c b L xs H0 dC dI cI cJ mi nc0 ns0 res (pc + 1) ls (.int (Int32.ofInt n) :: st) h) : xs_At p l e R s m args below meth c b L xs H0 dC dI cI cJ mi nc0 ns0 res pc ls st h := fun H LS locs h1 h2 h3 h4 => lv_iconst C.1 C.2.1 hd rfl (k H LS locs h1 h2 h3 h4)
theorem xs_bipush (C : xs_Ctx p b L xs H0 dC dI cI cJ mi s m args meth c) {res : xm_H × Outcome} {pc : Nat} {ls st : List Value} {h : xm_H} {n : Int} (hd : decode (xm_code mi) pc = .ok (.bipush n, 2)) (k : xs_At p l e R s m args below meth c b L xs H0 dC dI cI cJ mi nc0 ns0 res (pc + 2) ls (.int (Int8.ofInt n).toInt32 :: st) h) : xs_At p l e R s m args below meth c b L xs H0 dC dI cI cJ mi nc0 ns0 res pc ls st h := fun H LS locs h1 h2 h3 h4 => lv_bipush C.1 C.2.1 hd rfl (k H LS locs h1 h2 h3 h4)
theorem xs_sipush (C : xs_Ctx p b L xs H0 dC dI cI cJ mi s m args meth c) {res : xm_H × Outcome} {pc : Nat} {ls st : List Value} {h : xm_H} {n : Int} (hd : decode (xm_code mi) pc = .ok (.sipush n, 3)) (k : xs_At p l e R s m args below meth c b L xs H0 dC dI cI cJ mi nc0 ns0 res (pc + 3) ls (.int (Int16.ofInt n).toInt32 :: st) h) : xs_At p l e R s m args below meth c b L xs H0 dC dI cI cJ mi nc0 ns0 res pc ls st h := fun H LS locs h1 h2 h3 h4 => lv_sipush C.1 C.2.1 hd rfl (k H LS locs h1 h2 h3 h4)
theorem xs_dup (C : xs_Ctx p b L xs H0 dC dI cI cJ mi s m args meth c) {res : xm_H × Outcome} {pc : Nat} {ls st : List Value} {h : xm_H} {v : Value} (hv : v.category = 1) (hd : decode (xm_code mi) pc = .ok (.dup, 1)) (k : xs_At p l e R s m args below meth c b L xs H0 dC dI cI cJ mi nc0 ns0 res (pc + 1) ls (v :: v :: st) h) : xs_At p l e R s m args below meth c b L xs H0 dC dI cI cJ mi nc0 ns0 res pc ls (v :: st) h := fun H LS locs h1 h2 h3 h4 => lv_dup C.1 C.2.1 hd ((xr_cv_cat _ _ _).trans hv) (k H LS locs h1 h2 h3 h4)
theorem xs_pop (C : xs_Ctx p b L xs H0 dC dI cI cJ mi s m args meth c) {res : xm_H × Outcome} {pc : Nat} {ls st : List Value} {h : xm_H} {v : Value} (hv : v.category = 1) (hd : decode (xm_code mi) pc = .ok (.pop, 1)) (k : xs_At p l e R s m args below meth c b L xs H0 dC dI cI cJ mi nc0 ns0 res (pc + 1) ls st h) : xs_At p l e R s m args below meth c b L xs H0 dC dI cI cJ mi nc0 ns0 res pc ls (v :: st) h := fun H LS locs h1 h2 h3 h4 => lv_pop C.1 C.2.1 hd ((xr_cv_cat _ _ _).trans hv) (k H LS locs h1 h2 h3 h4)
theorem xs_dup_x1 (C : xs_Ctx p b L xs H0 dC dI cI cJ mi s m args meth c) {res : xm_H × Outcome} {pc : Nat} {ls st : List Value} {h : xm_H} {v w : Value} (hv : v.category = 1) (hw : w.category = 1) (hd : decode (xm_code mi) pc = .ok (.dup_x1, 1)) (k : xs_At p l e R s m args below meth c b L xs H0 dC dI cI cJ mi nc0 ns0 res (pc + 1) ls (v :: w :: v :: st) h) : xs_At p l e R s m args below meth c b L xs H0 dC dI cI cJ mi nc0 ns0 res pc ls (v :: w :: st) h := fun H LS locs h1 h2 h3 h4 => lv_dup_x1 C.1 C.2.1 hd ((xr_cv_cat _ _ _).trans hv) ((xr_cv_cat _ _ _).trans hw) (k H LS locs h1 h2 h3 h4)
theorem xs_dup2 (C : xs_Ctx p b L xs H0 dC dI cI cJ mi s m args meth c) {res : xm_H × Outcome} {pc : Nat} {ls st : List Value} {h : xm_H} {v w : Value} (hv : v.category = 1) (hw : w.category = 1) (hd : decode (xm_code mi) pc = .ok (.dup2, 1)) (k : xs_At p l e R s m args below meth c b L xs H0 dC dI cI cJ mi nc0 ns0 res (pc + 1) ls (v :: w :: v :: w :: st) h) : xs_At p l e R s m args below meth c b L xs H0 dC dI cI cJ mi nc0 ns0 res pc ls (v :: w :: st) h := fun H LS locs h1 h2 h3 h4 => lv_dup2_11 C.1 C.2.1 hd ((xr_cv_cat _ _ _).trans hv) ((xr_cv_cat _ _ _).trans hw) (k H LS locs h1 h2 h3 h4)
theorem xs_goto (C : xs_Ctx p b L xs H0 dC dI cI cJ mi s m args meth c) {res : xm_H × Outcome} {pc : Nat} {ls st : List Value} {h : xm_H} {off : Int} {t : Nat} (ht : (pc : Int) + off = (t : Int)) (hd : decode (xm_code mi) pc = .ok (.goto off, 3)) (k : xs_At p l e R s m args below meth c b L xs H0 dC dI cI cJ mi nc0 ns0 res t ls st h) : xs_At p l e R s m args below meth c b L xs H0 dC dI cI cJ mi nc0 ns0 res pc ls st h := fun H LS locs h1 h2 h3 h4 => lv_goto C.1 C.2.1 hd ht (k H LS locs h1 h2 h3 h4)
theorem xs_iload (C : xs_Ctx p b L xs H0 dC dI cI cJ mi s m args meth c) {res : xm_H × Outcome} {pc : Nat} {ls st : List Value} {h : xm_H} {j : Nat} {x : Int32} (hv : xm_get ls j = .int x) (hd : decode (xm_code mi) pc = .ok (.iload j, 2)) (k : xs_At p l e R s m args below meth c b L xs H0 dC dI cI cJ mi nc0 ns0 res (pc + 2) ls (.int x :: st) h) : xs_At p l e R s m args below meth c b L xs H0 dC dI cI cJ mi nc0 ns0 res pc ls st h := fun H LS locs h1 h2 h3 h4 => lv_iload C.1 C.2.1 hd (h4.get hv (fun q => by cases q)) (k H LS locs h1 h2 h3 h4)
theorem xs_lload (C : xs_Ctx p b L xs H0 dC dI cI cJ mi s m args meth c) {res : xm_H × Outcome} {pc : Nat} {ls st : List Value} {h : xm_H} {j : Nat} {x : Int64} (hv : xm_get ls j = .long x) (hd : decode (xm_code mi) pc = .ok (.lload j, 2)) (k : xs_At p l e R s m args below meth c b L xs H0 dC dI cI cJ mi nc0 ns0 res (pc + 2) ls (.long x :: st) h) : xs_At p l e R s m args below meth c b L xs H0 dC dI cI cJ mi nc0 ns0 res pc ls st h := fun H LS locs h1 h2 h3 h4 => lv_lload C.1 C.2.1 hd (h4.get hv (fun q => by cases q)) (k H LS locs h1 h2 h3 h4)
theorem xs_iload_n (C : xs_Ctx p b L xs H0 dC dI cI cJ mi s m args meth c) {res : xm_H × Outcome} {pc : Nat} {ls st : List Value} {h : xm_H} {j : Fin 4} {x : Int32} (hv : xm_get ls j.val = .int x) (hd : decode (xm_code mi) pc = .ok (.iload_n j, 1)) (k : xs_At p l e R s m args below meth c b L xs H0 dC dI cI cJ mi nc0 ns0 res (pc + 1) ls (.int x :: st) h) : xs_At p l e R s m args below meth c b L xs H0 dC dI cI cJ mi nc0 ns0 res pc ls st h := fun H LS locs h1 h2 h3 h4 => lv_iload_n C.1 C.2.1 hd rfl (h4.get hv (fun q => by cases q)) (k H LS locs h1 h2 h3 h4)
theorem xs_lload_n (C : xs_Ctx p b L xs H0 dC dI cI cJ mi s m args meth c) {res : xm_H × Outcome} {pc : Nat} {ls st : List Value} {h : xm_H} {j : Fin 4} {x : Int64} (hv : xm_get ls j.val = .long x) (hd : decode (xm_code mi) pc = .ok (.lload_n j, 1)) (k : xs_At p l e R s m args below meth c b L xs H0 dC dI cI cJ mi nc0 ns0 res (pc + 1) ls (.long x :: st) h) : xs_At p l e R s m args below meth c b L xs H0 dC dI cI cJ mi nc0 ns0 res pc ls st h := fun H LS locs h1 h2 h3 h4 => lv_lload_n C.1 C.2.1 hd rfl (h4.get hv (fun q => by cases q)) (k H LS locs h1 h2 h3 h4)
theorem xs_cvr (b B0 x : Nat) : ∃ a, xr_cv b B0 (.ref x) = .ref a := by
  cases x with
  | zero => exact ⟨b, rfl⟩
  | succ q => exact ⟨B0 + q, rfl⟩
theorem xs_aload (C : xs_Ctx p b L xs H0 dC dI cI cJ mi s m args meth c) {res : xm_H × Outcome} {pc : Nat} {ls st : List Value} {h : xm_H} {j : Nat} {x : Nat} (hv : xm_get ls j = .ref x) (hd : decode (xm_code mi) pc = .ok (.aload j, 2)) (k : xs_At p l e R s m args below meth c b L xs H0 dC dI cI cJ mi nc0 ns0 res (pc + 2) ls (.ref x :: st) h) : xs_At p l e R s m args below meth c b L xs H0 dC dI cI cJ mi nc0 ns0 res pc ls st h := by
  intro H LS locs h1 h2 h3 h4
  have hg := h4.get hv (fun q => by cases q)
  have hk := k H LS locs h1 h2 h3 h4
  obtain ⟨a, ha⟩ := xs_cvr b H0.size x
  rw [List.map_cons, ha] at hk
  rw [ha] at hg
  exact lv_aload C.1 C.2.1 hd hg hk
theorem xs_aload_n (C : xs_Ctx p b L xs H0 dC dI cI cJ mi s m args meth c) {res : xm_H × Outcome} {pc : Nat} {ls st : List Value} {h : xm_H} {j : Fin 4} {x : Nat} (hv : xm_get ls j.val = .ref x) (hd : decode (xm_code mi) pc = .ok (.aload_n j, 1)) (k : xs_At p l e R s m args below meth c b L xs H0 dC dI cI cJ mi nc0 ns0 res (pc + 1) ls (.ref x :: st) h) : xs_At p l e R s m args below meth c b L xs H0 dC dI cI cJ mi nc0 ns0 res pc ls st h := by
  intro H LS locs h1 h2 h3 h4
  have hg := h4.get hv (fun q => by cases q)
  have hk := k H LS locs h1 h2 h3 h4
  obtain ⟨a, ha⟩ := xs_cvr b H0.size x
  rw [List.map_cons, ha] at hk
  rw [ha] at hg
  exact lv_aload_n C.1 C.2.1 hd rfl hg hk
theorem xs_istore (C : xs_Ctx p b L xs H0 dC dI cI cJ mi s m args meth c) {res : xm_H × Outcome} {pc : Nat} {ls st : List Value} {h : xm_H} {j : Nat} {x : Int32} (hj : j < ls.length) (hd : decode (xm_code mi) pc = .ok (.istore j, 2)) (k : xs_At p l e R s m args below meth c b L xs H0 dC dI cI cJ mi nc0 ns0 res (pc + 2) (xm_put1 ls j (.int x)) st h) : xs_At p l e R s m args below meth c b L xs H0 dC dI cI cJ mi nc0 ns0 res pc ls (.int x :: st) h := fun H LS locs h1 h2 h3 h4 => lv_istore C.1 C.2.1 hd h4.has (by rw [h4.2.1] at hj; exact hj) rfl fun LS' h' => k H LS' locs h1 h2 h3 (h4.put1 (v := .int x) (by rw [h4.2.1] at hj; exact hj) h')
theorem xs_istore_n (C : xs_Ctx p b L xs H0 dC dI cI cJ mi s m args meth c) {res : xm_H × Outcome} {pc : Nat} {ls st : List Value} {h : xm_H} {j : Fin 4} {x : Int32} (hj : j.val < ls.length) (hd : decode (xm_code mi) pc = .ok (.istore_n j, 1)) (k : xs_At p l e R s m args below meth c b L xs H0 dC dI cI cJ mi nc0 ns0 res (pc + 1) (xm_put1 ls j.val (.int x)) st h) : xs_At p l e R s m args below meth c b L xs H0 dC dI cI cJ mi nc0 ns0 res pc ls (.int x :: st) h := fun H LS locs h1 h2 h3 h4 => lv_istore_n C.1 C.2.1 hd rfl h4.has (by rw [h4.2.1] at hj; exact hj) rfl fun LS' h' => k H LS' locs h1 h2 h3 (h4.put1 (v := .int x) (by rw [h4.2.1] at hj; exact hj) h')
theorem xs_lstore (C : xs_Ctx p b L xs H0 dC dI cI cJ mi s m args meth c) {res : xm_H × Outcome} {pc : Nat} {ls st : List Value} {h : xm_H} {j : Nat} {x : Int64} (hj : j + 1 < ls.length) (hd : decode (xm_code mi) pc = .ok (.lstore j, 2)) (k : xs_At p l e R s m args below meth c b L xs H0 dC dI cI cJ mi nc0 ns0 res (pc + 2) (xm_put2 ls j (.long x)) st h) : xs_At p l e R s m args below meth c b L xs H0 dC dI cI cJ mi nc0 ns0 res pc ls (.long x :: st) h := fun H LS locs h1 h2 h3 h4 => lv_lstore C.1 C.2.1 hd h4.has (by rw [h4.2.1] at hj; exact hj) rfl fun LS' h' => k H LS' locs h1 h2 h3 (h4.put2 (v := .long x) (by rw [h4.2.1] at hj; exact hj) h')
theorem xs_lstore_n (C : xs_Ctx p b L xs H0 dC dI cI cJ mi s m args meth c) {res : xm_H × Outcome} {pc : Nat} {ls st : List Value} {h : xm_H} {j : Fin 4} {x : Int64} (hj : j.val + 1 < ls.length) (hd : decode (xm_code mi) pc = .ok (.lstore_n j, 1)) (k : xs_At p l e R s m args below meth c b L xs H0 dC dI cI cJ mi nc0 ns0 res (pc + 1) (xm_put2 ls j.val (.long x)) st h) : xs_At p l e R s m args below meth c b L xs H0 dC dI cI cJ mi nc0 ns0 res pc ls (.long x :: st) h := fun H LS locs h1 h2 h3 h4 => lv_lstore_n C.1 C.2.1 hd rfl h4.has (by rw [h4.2.1] at hj; exact hj) rfl fun LS' h' => k H LS' locs h1 h2 h3 (h4.put2 (v := .long x) (by rw [h4.2.1] at hj; exact hj) h')
theorem xs_astore (C : xs_Ctx p b L xs H0 dC dI cI cJ mi s m args meth c) {res : xm_H × Outcome} {pc : Nat} {ls st : List Value} {h : xm_H} {j : Nat} {x : Nat} (hj : j < ls.length) (hd : decode (xm_code mi) pc = .ok (.astore j, 2)) (k : xs_At p l e R s m args below meth c b L xs H0 dC dI cI cJ mi nc0 ns0 res (pc + 2) (xm_put1 ls j (.ref x)) st h) : xs_At p l e R s m args below meth c b L xs H0 dC dI cI cJ mi nc0 ns0 res pc ls (.ref x :: st) h := by
  intro H LS locs h1 h2 h3 h4
  have hj' : j < xm_maxL mi := by rw [h4.2.1] at hj; exact hj
  obtain ⟨a, ha⟩ := xs_cvr b H0.size x
  rw [List.map_cons, ha]
  refine lv_astore C.1 C.2.1 hd h4.has hj' rfl fun LS' h' => k H LS' locs h1 h2 h3 (h4.put1 (v := .ref x) hj' ?_)
  rw [ha]
  exact h'
theorem xs_astore_n (C : xs_Ctx p b L xs H0 dC dI cI cJ mi s m args meth c) {res : xm_H × Outcome} {pc : Nat} {ls st : List Value} {h : xm_H} {j : Fin 4} {x : Nat} (hj : j.val < ls.length) (hd : decode (xm_code mi) pc = .ok (.astore_n j, 1)) (k : xs_At p l e R s m args below meth c b L xs H0 dC dI cI cJ mi nc0 ns0 res (pc + 1) (xm_put1 ls j.val (.ref x)) st h) : xs_At p l e R s m args below meth c b L xs H0 dC dI cI cJ mi nc0 ns0 res pc ls (.ref x :: st) h := by
  intro H LS locs h1 h2 h3 h4
  have hj' : j.val < xm_maxL mi := by rw [h4.2.1] at hj; exact hj
  obtain ⟨a, ha⟩ := xs_cvr b H0.size x
  rw [List.map_cons, ha]
  refine lv_astore_n C.1 C.2.1 hd rfl h4.has hj' rfl fun LS' h' => k H LS' locs h1 h2 h3 (h4.put1 (v := .ref x) hj' ?_)
  rw [ha]
  exact h'
theorem xs_iinc (C : xs_Ctx p b L xs H0 dC dI cI cJ mi s m args meth c) {res : xm_H × Outcome} {pc : Nat} {ls st : List Value} {h : xm_H} {j : Nat} {n : Int} {x : Int32} (hv : xm_get ls j = .int x) (hd : decode (xm_code mi) pc = .ok (.iinc j n, 3)) (k : xs_At p l e R s m args below meth c b L xs H0 dC dI cI cJ mi nc0 ns0 res (pc + 3) (xm_put1 ls j (.int (x + Int32.ofInt n))) st h) : xs_At p l e R s m args below meth c b L xs H0 dC dI cI cJ mi nc0 ns0 res pc ls st h := by
  intro H LS locs h1 h2 h3 h4
  have hl : ls[j]? = some (.int x) := by
    unfold xm_get at hv
    rw [List.getD_eq_getElem?_getD] at hv
    cases he : ls[j]? with
    | none => rw [he] at hv; cases hv
    | some w => rw [he] at hv; exact congrArg some hv
  have hj : j < xm_maxL mi := by rw [← h4.2.1]; exact (List.getElem?_eq_some_iff.mp hl).1
  obtain ⟨q, hq⟩ := List.getElem?_of_mem (xr_lv_mem (b := b) (B0 := H0.size) (q := (j, .int x)) |>.mpr ⟨.int x, hl, (fun q => by cases q), rfl⟩)
  exact lv_iinc C.1 C.2.1 hd h4.has hq rfl hj rfl fun LS' h' => k H LS' locs h1 h2 h3 (h4.put1 (v := .int (x + Int32.ofInt n)) hj h')
theorem xs_if_eq (C : xs_Ctx p b L xs H0 dC dI cI cJ mi s m args meth c) {res : xm_H × Outcome} {pc : Nat} {ls st : List Value} {h : xm_H} {x : Int32} {off : Int} {t : Nat} (hd : decode (xm_code mi) pc = .ok (.ifCond .eq off, 3)) (ht : (pc : Int) + off = (t : Int)) (kt : x = 0 → xs_At p l e R s m args below meth c b L xs H0 dC dI cI cJ mi nc0 ns0 res t ls st h) (kf : ¬ x = 0 → xs_At p l e R s m args below meth c b L xs H0 dC dI cI cJ mi nc0 ns0 res (pc + 3) ls st h) : xs_At p l e R s m args below meth c b L xs H0 dC dI cI cJ mi nc0 ns0 res pc ls (.int x :: st) h := fun H LS locs h1 h2 h3 h4 => lv_if_eq C.1 C.2.1 hd ht (fun q => kt q H LS locs h1 h2 h3 h4) (fun q => kf q H LS locs h1 h2 h3 h4)
theorem xs_icmp_eq (C : xs_Ctx p b L xs H0 dC dI cI cJ mi s m args meth c) {res : xm_H × Outcome} {pc : Nat} {ls st : List Value} {h : xm_H} {x y : Int32} {off : Int} {t : Nat} (hd : decode (xm_code mi) pc = .ok (.if_icmp .eq off, 3)) (ht : (pc : Int) + off = (t : Int)) (kt : x = y → xs_At p l e R s m args below meth c b L xs H0 dC dI cI cJ mi nc0 ns0 res t ls st h) (kf : ¬ x = y → xs_At p l e R s m args below meth c b L xs H0 dC dI cI cJ mi nc0 ns0 res (pc + 3) ls st h) : xs_At p l e R s m args below meth c b L xs H0 dC dI cI cJ mi nc0 ns0 res pc ls (.int y :: .int x :: st) h := fun H LS locs h1 h2 h3 h4 => lv_icmp_eq C.1 C.2.1 hd ht (fun q => kt q H LS locs h1 h2 h3 h4) (fun q => kf q H LS locs h1 h2 h3 h4)
theorem xs_if_ne (C : xs_Ctx p b L xs H0 dC dI cI cJ mi s m args meth c) {res : xm_H × Outcome} {pc : Nat} {ls st : List Value} {h : xm_H} {x : Int32} {off : Int} {t : Nat} (hd : decode (xm_code mi) pc = .ok (.ifCond .ne off, 3)) (ht : (pc : Int) + off = (t : Int)) (kt : ¬ x = 0 → xs_At p l e R s m args below meth c b L xs H0 dC dI cI cJ mi nc0 ns0 res t ls st h) (kf : x = 0 → xs_At p l e R s m args below meth c b L xs H0 dC dI cI cJ mi nc0 ns0 res (pc + 3) ls st h) : xs_At p l e R s m args below meth c b L xs H0 dC dI cI cJ mi nc0 ns0 res pc ls (.int x :: st) h := fun H LS locs h1 h2 h3 h4 => lv_if_ne C.1 C.2.1 hd ht (fun q => kt q H LS locs h1 h2 h3 h4) (fun q => kf q H LS locs h1 h2 h3 h4)
theorem xs_icmp_ne (C : xs_Ctx p b L xs H0 dC dI cI cJ mi s m args meth c) {res : xm_H × Outcome} {pc : Nat} {ls st : List Value} {h : xm_H} {x y : Int32} {off : Int} {t : Nat} (hd : decode (xm_code mi) pc = .ok (.if_icmp .ne off, 3)) (ht : (pc : Int) + off = (t : Int)) (kt : ¬ x = y → xs_At p l e R s m args below meth c b L xs H0 dC dI cI cJ mi nc0 ns0 res t ls st h) (kf : x = y → xs_At p l e R s m args below meth c b L xs H0 dC dI cI cJ mi nc0 ns0 res (pc + 3) ls st h) : xs_At p l e R s m args below meth c b L xs H0 dC dI cI cJ mi nc0 ns0 res pc ls (.int y :: .int x :: st) h := fun H LS locs h1 h2 h3 h4 => lv_icmp_ne C.1 C.2.1 hd ht (fun q => kt q H LS locs h1 h2 h3 h4) (fun q => kf q H LS locs h1 h2 h3 h4)
theorem xs_if_lt (C : xs_Ctx p b L xs H0 dC dI cI cJ mi s m args meth c) {res : xm_H × Outcome} {pc : Nat} {ls st : List Value} {h : xm_H} {x : Int32} {off : Int} {t : Nat} (hd : decode (xm_code mi) pc = .ok (.ifCond .lt off, 3)) (ht : (pc : Int) + off = (t : Int)) (kt : x < 0 → xs_At p l e R s m args below meth c b L xs H0 dC dI cI cJ mi nc0 ns0 res t ls st h) (kf : ¬ x < 0 → xs_At p l e R s m args below meth c b L xs H0 dC dI cI cJ mi nc0 ns0 res (pc + 3) ls st h) : xs_At p l e R s m args below meth c b L xs H0 dC dI cI cJ mi nc0 ns0 res pc ls (.int x :: st) h := fun H LS locs h1 h2 h3 h4 => lv_if_lt C.1 C.2.1 hd ht (fun q => kt q H LS locs h1 h2 h3 h4) (fun q => kf q H LS locs h1 h2 h3 h4)
theorem xs_icmp_lt (C : xs_Ctx p b L xs H0 dC dI cI cJ mi s m args meth c) {res : xm_H × Outcome} {pc : Nat} {ls st : List Value} {h : xm_H} {x y : Int32} {off : Int} {t : Nat} (hd : decode (xm_code mi) pc = .ok (.if_icmp .lt off, 3)) (ht : (pc : Int) + off = (t : Int)) (kt : x < y → xs_At p l e R s m args below meth c b L xs H0 dC dI cI cJ mi nc0 ns0 res t ls st h) (kf : ¬ x < y → xs_At p l e R s m args below meth c b L xs H0 dC dI cI cJ mi nc0 ns0 res (pc + 3) ls st h) : xs_At p l e R s m args below meth c b L xs H0 dC dI cI cJ mi nc0 ns0 res pc ls (.int y :: .int x :: st) h := fun H LS locs h1 h2 h3 h4 => lv_icmp_lt C.1 C.2.1 hd ht (fun q => kt q H LS locs h1 h2 h3 h4) (fun q => kf q H LS locs h1 h2 h3 h4)
theorem xs_if_ge (C : xs_Ctx p b L xs H0 dC dI cI cJ mi s m args meth c) {res : xm_H × Outcome} {pc : Nat} {ls st : List Value} {h : xm_H} {x : Int32} {off : Int} {t : Nat} (hd : decode (xm_code mi) pc = .ok (.ifCond .ge off, 3)) (ht : (pc : Int) + off = (t : Int)) (kt : 0 ≤ x → xs_At p l e R s m args below meth c b L xs H0 dC dI cI cJ mi nc0 ns0 res t ls st h) (kf : ¬ 0 ≤ x → xs_At p l e R s m args below meth c b L xs H0 dC dI cI cJ mi nc0 ns0 res (pc + 3) ls st h) : xs_At p l e R s m args below meth c b L xs H0 dC dI cI cJ mi nc0 ns0 res pc ls (.int x :: st) h := fun H LS locs h1 h2 h3 h4 => lv_if_ge C.1 C.2.1 hd ht (fun q => kt q H LS locs h1 h2 h3 h4) (fun q => kf q H LS locs h1 h2 h3 h4)
theorem xs_icmp_ge (C : xs_Ctx p b L xs H0 dC dI cI cJ mi s m args meth c) {res : xm_H × Outcome} {pc : Nat} {ls st : List Value} {h : xm_H} {x y : Int32} {off : Int} {t : Nat} (hd : decode (xm_code mi) pc = .ok (.if_icmp .ge off, 3)) (ht : (pc : Int) + off = (t : Int)) (kt : y ≤ x → xs_At p l e R s m args below meth c b L xs H0 dC dI cI cJ mi nc0 ns0 res t ls st h) (kf : ¬ y ≤ x → xs_At p l e R s m args below meth c b L xs H0 dC dI cI cJ mi nc0 ns0 res (pc + 3) ls st h) : xs_At p l e R s m args below meth c b L xs H0 dC dI cI cJ mi nc0 ns0 res pc ls (.int y :: .int x :: st) h := fun H LS locs h1 h2 h3 h4 => lv_icmp_ge C.1 C.2.1 hd ht (fun q => kt q H LS locs h1 h2 h3 h4) (fun q => kf q H LS locs h1 h2 h3 h4)
theorem xs_if_gt (C : xs_Ctx p b L xs H0 dC dI cI cJ mi s m args meth c) {res : xm_H × Outcome} {pc : Nat} {ls st : List Value} {h : xm_H} {x : Int32} {off : Int} {t : Nat} (hd : decode (xm_code mi) pc = .ok (.ifCond .gt off, 3)) (ht : (pc : Int) + off = (t : Int)) (kt : 0 < x → xs_At p l e R s m args below meth c b L xs H0 dC dI cI cJ mi nc0 ns0 res t ls st h) (kf : ¬ 0 < x → xs_At p l e R s m args below meth c b L xs H0 dC dI cI cJ mi nc0 ns0 res (pc + 3) ls st h) : xs_At p l e R s m args below meth c b L xs H0 dC dI cI cJ mi nc0 ns0 res pc ls (.int x :: st) h := fun H LS locs h1 h2 h3 h4 => lv_if_gt C.1 C.2.1 hd ht (fun q => kt q H LS locs h1 h2 h3 h4) (fun q => kf q H LS locs h1 h2 h3 h4)
theorem xs_icmp_gt (C : xs_Ctx p b L xs H0 dC dI cI cJ mi s m args meth c) {res : xm_H × Outcome} {pc : Nat} {ls st : List Value} {h : xm_H} {x y : Int32} {off : Int} {t : Nat} (hd : decode (xm_code mi) pc = .ok (.if_icmp .gt off, 3)) (ht : (pc : Int) + off = (t : Int)) (kt : y < x → xs_At p l e R s m args below meth c b L xs H0 dC dI cI cJ mi nc0 ns0 res t ls st h) (kf : ¬ y < x → xs_At p l e R s m args below meth c b L xs H0 dC dI cI cJ mi nc0 ns0 res (pc + 3) ls st h) : xs_At p l e R s m args below meth c b L xs H0 dC dI cI cJ mi nc0 ns0 res pc ls (.int y :: .int x :: st) h := fun H LS locs h1 h2 h3 h4 => lv_icmp_gt C.1 C.2.1 hd ht (fun q => kt q H LS locs h1 h2 h3 h4) (fun q => kf q H LS locs h1 h2 h3 h4)
theorem xs_if_le (C : xs_Ctx p b L xs H0 dC dI cI cJ mi s m args meth c) {res : xm_H × Outcome} {pc : Nat} {ls st : List Value} {h : xm_H} {x : Int32} {off : Int} {t : Nat} (hd : decode (xm_code mi) pc = .ok (.ifCond .le off, 3)) (ht : (pc : Int) + off = (t : Int)) (kt : x ≤ 0 → xs_At p l e R s m args below meth c b L xs H0 dC dI cI cJ mi nc0 ns0 res t ls st h) (kf : ¬ x ≤ 0 → xs_At p l e R s m args below meth c b L xs H0 dC dI cI cJ mi nc0 ns0 res (pc + 3) ls st h) : xs_At p l e R s m args below meth c b L xs H0 dC dI cI cJ mi nc0 ns0 res pc ls (.int x :: st) h := fun H LS locs h1 h2 h3 h4 => lv_if_le C.1 C.2.1 hd ht (fun q => kt q H LS locs h1 h2 h3 h4) (fun q => kf q H LS locs h1 h2 h3 h4)
theorem xs_icmp_le (C : xs_Ctx p b L xs H0 dC dI cI cJ mi s m args meth c) {res : xm_H × Outcome} {pc : Nat} {ls st : List Value} {h : xm_H} {x y : Int32} {off : Int} {t : Nat} (hd : decode (xm_code mi) pc = .ok (.if_icmp .le off, 3)) (ht : (pc : Int) + off = (t : Int)) (kt : x ≤ y → xs_At p l e R s m args below meth c b L xs H0 dC dI cI cJ mi nc0 ns0 res t ls st h) (kf : ¬ x ≤ y → xs_At p l e R s m args below meth c b L xs H0 dC dI cI cJ mi nc0 ns0 res (pc + 3) ls st h) : xs_At p l e R s m args below meth c b L xs H0 dC dI cI cJ mi nc0 ns0 res pc ls (.int y :: .int x :: st) h := fun H LS locs h1 h2 h3 h4 => lv_icmp_le C.1 C.2.1 hd ht (fun q => kt q H LS locs h1 h2 h3 h4) (fun q => kf q H LS locs h1 h2 h3 h4)
theorem xs_tabOut (C : xs_Ctx p b L xs H0 dC dI cI cJ mi s m args meth c) {res : xm_H × Outcome} {pc : Nat} {ls st : List Value} {h : xm_H} {dflt lo hi : Int} {offs : Array Int} {len : Nat} {x : Int32} {t : Nat} (hx : x.toInt < lo ∨ hi < x.toInt) (ht : (pc : Int) + dflt = (t : Int)) (hd : decode (xm_code mi) pc = .ok (.tableswitch dflt lo hi offs, len)) (k : xs_At p l e R s m args below meth c b L xs H0 dC dI cI cJ mi nc0 ns0 res t ls st h) : xs_At p l e R s m args below meth c b L xs H0 dC dI cI cJ mi nc0 ns0 res pc ls (.int x :: st) h := fun H LS locs h1 h2 h3 h4 => lv_tableOut C.1 C.2.1 hd hx ht (k H LS locs h1 h2 h3 h4)
theorem xs_tabIn (C : xs_Ctx p b L xs H0 dC dI cI cJ mi s m args meth c) {res : xm_H × Outcome} {pc : Nat} {ls st : List Value} {h : xm_H} {dflt lo hi : Int} {offs : Array Int} {len : Nat} {x : Int32} {off : Int} {t : Nat} (h5 : ¬ x.toInt < lo) (h6 : ¬ hi < x.toInt) (ho : offs[(x.toInt - lo).toNat]? = some off) (ht : (pc : Int) + off = (t : Int)) (hd : decode (xm_code mi) pc = .ok (.tableswitch dflt lo hi offs, len)) (k : xs_At p l e R s m args below meth c b L xs H0 dC dI cI cJ mi nc0 ns0 res t ls st h) : xs_At p l e R s m args below meth c b L xs H0 dC dI cI cJ mi nc0 ns0 res pc ls (.int x :: st) h := fun H LS locs h1 h2 h3 h4 => lv_tableIn C.1 C.2.1 hd h5 h6 ho ht (k H LS locs h1 h2 h3 h4)
theorem xs_in {i : Int32} {n : Nat} (h0 : 0 ≤ i) (h1 : i.toNatClampNeg < n) : vp_in i n := by
  rintro (h | h)
  · exact absurd h (Int32.not_lt.mpr h0)
  · omega
theorem xs_cellI {h : xm_H} {q n : Nat} (hs : xm_S h (q + 1) = (1, n)) (hq : q + 1 < xm_n h) : (xr_ws b H0.size cI cJ h)[q]? = some (H0.size + q, .inl (cI, n, .inl (xm_A h (q + 1)))) := by
  rw [xr_ws_get hq]
  unfold xr_cell
  rw [hs]
  rfl
theorem xs_cellJ {h : xm_H} {q n : Nat} (hs : xm_S h (q + 1) = (2, n)) (hq : q + 1 < xm_n h) : (xr_ws b H0.size cI cJ h)[q]? = some (H0.size + q, .inl (cJ, n, .inr (.inl (xm_L h (q + 1))))) := by
  rw [xr_ws_get hq]
  unfold xr_cell
  rw [hs]
  rfl
theorem xs_cellO {h : xm_H} {q ci : Nat} (hs : xm_S h (q + 1) = (0, ci)) (hq : q + 1 < xm_n h) : (xr_ws b H0.size cI cJ h)[q]? = some (H0.size + q, .inr (ci, (List.range (xm_N ci)).map fun k => xr_cv b H0.size (xm_F h (q + 1) k))) := by
  rw [xr_ws_get hq]
  unfold xr_cell
  rw [hs]
  rfl
theorem xs_setA0 {h : xm_H} {q : Nat} {f : Nat → Int32} : xm_A (xm_setA h (q + 1) f) 0 = xm_A h 0 := va_up_ne (xm_A h) (k := q + 1) (j := 0) f (by omega)
theorem xs_new0S {h : xm_H} {sh : Nat × Nat} {f : Nat → Value} {N : Nat} (hn : 1 ≤ xm_n h) : xm_S (xm_new h sh f N) 0 = xm_S h 0 := va_up_ne (xm_S h) (k := xm_n h) (j := 0) sh (by omega)
theorem xs_new0A {h : xm_H} {sh : Nat × Nat} {f : Nat → Value} {N : Nat} (hn : 1 ≤ xm_n h) : xm_A (xm_new h sh f N) 0 = xm_A h 0 := va_up_ne (xm_A h) (k := xm_n h) (j := 0) (fun _ => 0) (by omega)
theorem xs_iald (C : xs_Ctx p b L xs H0 dC dI cI cJ mi s m args meth c) {res : xm_H × Outcome} {pc : Nat} {ls st : List Value} {h : xm_H} {a : Nat} {i : Int32} (hs : (xm_S h a).1 = 1) (ha : a < xm_n h) (hi : 0 ≤ i) (hi2 : i.toNatClampNeg < (xm_S h a).2) (hd : decode (xm_code mi) pc = .ok (.iaload, 1)) (k : xs_At p l e R s m args below meth c b L xs H0 dC dI cI cJ mi nc0 ns0 res (pc + 1) ls (.int (xm_A h a i.toNatClampNeg) :: st) h) : xs_At p l e R s m args below meth c b L xs H0 dC dI cI cJ mi nc0 ns0 res pc ls (.int i :: .ref a :: st) h := by
  intro H LS locs h1 h2 h3 h4
  have hk := k H LS locs h1 h2 h3 h4
  obtain ⟨hP, hS, -, -, g1, g2, g6⟩ := h3
  obtain ⟨-, -, -, -, -, -, -, -, hK, hX, hbl, -⟩ := id C
  cases a with
  | zero =>
    rw [g1] at hi2
    rw [g2] at hk
    exact va_sld (A := fun q => H0.size ≤ q) C.1 C.2.1 hX hbl (Nat.not_le.mpr hbl) hS (xs_in hi hi2) hd hk
  | succ q =>
    exact va_iald C.1 C.2.1 hK hP q 0 (xs_cellI (n := (xm_S h (q + 1)).2) (Prod.ext hs rfl) ha) rfl (xs_in hi hi2) hd hk
theorem xs_lald (C : xs_Ctx p b L xs H0 dC dI cI cJ mi s m args meth c) {res : xm_H × Outcome} {pc : Nat} {ls st : List Value} {h : xm_H} {q : Nat} {i : Int32} (hs : (xm_S h (q + 1)).1 = 2) (ha : q + 1 < xm_n h) (hi : 0 ≤ i) (hi2 : i.toNatClampNeg < (xm_S h (q + 1)).2) (hd : decode (xm_code mi) pc = .ok (.laload, 1)) (k : xs_At p l e R s m args below meth c b L xs H0 dC dI cI cJ mi nc0 ns0 res (pc + 1) ls (.long (xm_L h (q + 1) i.toNatClampNeg) :: st) h) : xs_At p l e R s m args below meth c b L xs H0 dC dI cI cJ mi nc0 ns0 res pc ls (.int i :: .ref (q + 1) :: st) h := by
  intro H LS locs h1 h2 h3 h4
  have hk := k H LS locs h1 h2 h3 h4
  obtain ⟨hP, hS, -, -, g1, g2, g6⟩ := h3
  obtain ⟨-, -, -, -, -, -, -, -, hK, hX, hbl, -⟩ := id C
  exact va_lald C.1 C.2.1 hK hP q 1 (xs_cellJ (n := (xm_S h (q + 1)).2) (Prod.ext hs rfl) ha) rfl (xs_in hi hi2) hd hk
theorem xs_iast (C : xs_Ctx p b L xs H0 dC dI cI cJ mi s m args meth c) {res : xm_H × Outcome} {pc : Nat} {ls st : List Value} {h : xm_H} {q : Nat} {i x : Int32} (hs : (xm_S h (q + 1)).1 = 1) (ha : q + 1 < xm_n h) (hi : 0 ≤ i) (hi2 : i.toNatClampNeg < (xm_S h (q + 1)).2) (hd : decode (xm_code mi) pc = .ok (.iastore, 1)) (k : xs_At p l e R s m args below meth c b L xs H0 dC dI cI cJ mi nc0 ns0 res (pc + 1) ls st (xm_setA h (q + 1) (va_up (xm_A h (q + 1)) i.toNatClampNeg x))) : xs_At p l e R s m args below meth c b L xs H0 dC dI cI cJ mi nc0 ns0 res pc ls (.int x :: .int i :: .ref (q + 1) :: st) h := by
  intro H LS locs h1 h2 h3 h4
  obtain ⟨hP, hS, g4, g5, g1, g2, g6⟩ := h3
  obtain ⟨-, -, -, -, -, -, -, -, hK, hX, hbl, -⟩ := id C
  have hsn : xm_S h (q + 1) = (1, (xm_S h (q + 1)).2) := Prod.ext hs rfl
  refine va_iast C.1 C.2.1 hK hP xr_D hS q 0 (xs_cellI hsn ha) rfl (xs_in hi hi2) hd fun H1 locs1 hP1 hD1 hS1 => ?_
  refine k H1 LS locs1 h1 h2 ⟨?_, hS1, g4, g5, g1, ?_, g6⟩ h4
  · rw [xr_setA ha hsn]
    exact hP1
  · rw [xs_setA0]
    exact g2
theorem xs_last (C : xs_Ctx p b L xs H0 dC dI cI cJ mi s m args meth c) {res : xm_H × Outcome} {pc : Nat} {ls st : List Value} {h : xm_H} {q : Nat} {i : Int32} {x : Int64} (hs : (xm_S h (q + 1)).1 = 2) (ha : q + 1 < xm_n h) (hi : 0 ≤ i) (hi2 : i.toNatClampNeg < (xm_S h (q + 1)).2) (hd : decode (xm_code mi) pc = .ok (.lastore, 1)) (k : xs_At p l e R s m args below meth c b L xs H0 dC dI cI cJ mi nc0 ns0 res (pc + 1) ls st (xm_setL h (q + 1) i.toNatClampNeg x)) : xs_At p l e R s m args below meth c b L xs H0 dC dI cI cJ mi nc0 ns0 res pc ls (.long x :: .int i :: .ref (q + 1) :: st) h := by
  intro H LS locs h1 h2 h3 h4
  obtain ⟨hP, hS, g4, g5, g1, g2, g6⟩ := h3
  obtain ⟨-, -, -, -, -, -, -, -, hK, hX, hbl, -⟩ := id C
  have hsn : xm_S h (q + 1) = (2, (xm_S h (q + 1)).2) := Prod.ext hs rfl
  refine va_last C.1 C.2.1 hK hP xr_D hS q 1 (xs_cellJ hsn ha) rfl (xs_in hi hi2) hd fun H1 locs1 hP1 hD1 hS1 => ?_
  refine k H1 LS locs1 h1 h2 ⟨?_, hS1, g4, g5, g1, g2, g6⟩ h4
  rw [xr_setL ha hsn]
  exact hP1
theorem xs_alen (C : xs_Ctx p b L xs H0 dC dI cI cJ mi s m args meth c) {res : xm_H × Outcome} {pc : Nat} {ls st : List Value} {h : xm_H} {a : Nat} (hs : 1 ≤ (xm_S h a).1) (hs2 : (xm_S h a).1 ≤ 2) (ha : a < xm_n h) (hd : decode (xm_code mi) pc = .ok (.arraylength, 1)) (k : xs_At p l e R s m args below meth c b L xs H0 dC dI cI cJ mi nc0 ns0 res (pc + 1) ls (.int (Int32.ofNat (xm_S h a).2) :: st) h) : xs_At p l e R s m args below meth c b L xs H0 dC dI cI cJ mi nc0 ns0 res pc ls (.ref a :: st) h := by
  intro H LS locs h1 h2 h3 h4
  have hk := k H LS locs h1 h2 h3 h4
  obtain ⟨hP, hS, -, -, g1, g2, g6⟩ := h3
  obtain ⟨-, -, -, -, -, -, -, -, hK, hX, hbl, -⟩ := id C
  cases a with
  | zero =>
    rw [g1] at hk
    exact va_slen (A := fun q => H0.size ≤ q) C.1 C.2.1 hX hbl (Nat.not_le.mpr hbl) hS hd hk
  | succ q =>
    rcases (show (xm_S h (q + 1)).1 = 1 ∨ (xm_S h (q + 1)).1 = 2 by omega) with hs | hs
    · exact va_alen C.1 C.2.1 hK hP q 0 (xs_cellI (n := (xm_S h (q + 1)).2) (Prod.ext hs rfl) ha) rfl rfl hd hk
    · exact va_alen C.1 C.2.1 hK hP q 1 (xs_cellJ (n := (xm_S h (q + 1)).2) (Prod.ext hs rfl) ha) rfl rfl hd hk
theorem xs_narrow {ty : FieldType} {v : Value} {b B0 : Nat} (h : narrow ty v = v) : narrow ty (xr_cv b B0 v) = xr_cv b B0 v := by
  cases v with
  | ref a => obtain ⟨a', ha⟩ := xs_cvr b B0 a; rw [ha]; cases ty <;> rfl
  | _ => exact h
theorem xs_fits {ty : FieldType} {v : Value} {b B0 : Nat} (h : fits ty v = true) : fits ty (xr_cv b B0 v) = true := by
  cases v with
  | ref a =>
    obtain ⟨a', ha⟩ := xs_cvr b B0 a
    rw [ha]
    cases ty <;> first | rfl | cases h
  | _ => exact h
theorem xs_dflt (b B0 : Nat) (ty : FieldType) : xr_cv b B0 (defaultValue ty) = defaultValue ty := by
  cases ty <;> rfl
theorem xs_getf (C : xs_Ctx p b L xs H0 dC dI cI cJ mi s m args meth c) {res : xm_H × Outcome} {pc : Nat} {ls st : List Value} {h : xm_H} {q ci idx : Nat} {r : String × Nat × Nat × Nat} (hs : xm_S h (q + 1) = (0, ci)) (ha : q + 1 < xm_n h) (hf : xm_find xt_F (xm_oc mi) idx ci = some r) (hd : decode (xm_code mi) pc = .ok (.getfield idx, 3)) (k : xs_At p l e R s m args below meth c b L xs H0 dC dI cI cJ mi nc0 ns0 res (pc + 3) ls (xm_F h (q + 1) r.2.1 :: st) h) : xs_At p l e R s m args below meth c b L xs H0 dC dI cI cJ mi nc0 ns0 res pc ls (.ref (q + 1) :: st) h := by
  intro H LS locs h1 h2 h3 h4
  have hk := k H LS locs h1 h2 h3 h4
  obtain ⟨hP, hS, -, -, g1, g2, g6⟩ := h3
  obtain ⟨-, -, -, -, -, hown, -, hts, hK, -, -, -⟩ := id C
  have hF := List.all_eq_true.mp xk_F_all _ (xm_find_mem hf)
  unfold xk_Fb at hF
  dsimp only at hF
  cases hc : xt_cl[ci]? with
  | none => rw [hc] at hF; cases hF
  | some z =>
    rw [hc] at hF
    simp only [Bool.and_eq_true, Bool.or_eq_true, decide_eq_true_eq] at hF
    obtain ⟨f1, f2, f3⟩ := hF
    obtain ⟨Cn, Tn, Nn⟩ := z
    have hN : xm_N ci = Nn := by unfold xm_N; rw [hc]; rfl
    rw [xk_own mi] at f2
    refine va_get (T := Tn) (N := Nn) (C := Cn) C.1 C.2.1 (xk_lays hts hc) (fun _ h => h) hown hK hP q (xs_cellO hs ha) hc r.2.1 f1 (hts _ _ f2) (fun x9 h9 => ?_) (xr_fields (by rw [hN]; exact f1)) hd hk
    rcases f3 with f3 | f3
    · rw [← f3]; exact h9
    · exact u_same (hts _ _ f3) x9 h9
theorem xs_putf (C : xs_Ctx p b L xs H0 dC dI cI cJ mi s m args meth c) {res : xm_H × Outcome} {pc : Nat} {ls st : List Value} {h : xm_H} {q ci idx : Nat} {r : String × Nat × Nat × Nat} {v : Value} (hs : xm_S h (q + 1) = (0, ci)) (ha : q + 1 < xm_n h) (hf : xm_find xt_F (xm_oc mi) idx ci = some r) (hn : narrow (xm_ty ci r.2.1) v = v) (hfit : fits (xm_ty ci r.2.1) v = true) (hfin : xm_fin ci r.2.1 = false ∨ ((xm_name mi).name = "<init>" ∧ xm_decl ci r.2.1 = (xm_name mi).cls)) (hd : decode (xm_code mi) pc = .ok (.putfield idx, 3)) (k : xs_At p l e R s m args below meth c b L xs H0 dC dI cI cJ mi nc0 ns0 res (pc + 3) ls st (xm_setF h (q + 1) r.2.1 v)) : xs_At p l e R s m args below meth c b L xs H0 dC dI cI cJ mi nc0 ns0 res pc ls (v :: .ref (q + 1) :: st) h := by
  intro H LS locs h1 h2 h3 h4
  obtain ⟨hP, hS, g4, g5, g1, g2, g6⟩ := h3
  obtain ⟨-, -, -, -, -, hown, hname, hts, hK, -, -, -⟩ := id C
  have hF := List.all_eq_true.mp xk_F_all _ (xm_find_mem hf)
  unfold xk_Fb at hF
  dsimp only at hF
  cases hc : xt_cl[ci]? with
  | none => rw [hc] at hF; cases hF
  | some z =>
    rw [hc] at hF
    simp only [Bool.and_eq_true, Bool.or_eq_true, decide_eq_true_eq] at hF
    obtain ⟨f1, f2, f3⟩ := hF
    obtain ⟨Cn, Tn, Nn⟩ := z
    have hN : xm_N ci = Nn := by unfold xm_N; rw [hc]; rfl
    have hty := xk_types hc
    have hnm := xk_names hc
    rw [xk_own mi] at f2
    have hkk : ∀ (H1 : Heap) (locs1 : List Loc), va_P (dC, dI) xt_cl ((xr_ws b H0.size cI cJ h).set q (H0.size + q, .inr (ci, ((List.range (xm_N ci)).map fun k => xr_cv b H0.size (xm_F h (q + 1) k)).set r.2.1 (xr_cv b H0.size v)))) H1 → va_D (fun q => H0.size ≤ q) ((xr_ws b H0.size cI cJ h).set q (H0.size + q, .inr (ci, ((List.range (xm_N ci)).map fun k => xr_cv b H0.size (xm_F h (q + 1) k)).set r.2.1 (xr_cv b H0.size v)))) → va_S (fun q => H0.size ≤ q) H0 H1 locs1 → W p l e R s m args below meth c H1 locs1 (xm_nc h - nc0) (xm_ns h - ns0) (xs_Q b L xs H0 dC dI cI cJ s below nc0 ns0 res) (F0 m (pc + 3) LS (st.map (xr_cv b H0.size))) := by
      intro H1 locs1 hP1 _ hS1
      refine k H1 LS locs1 h1 h2 ⟨?_, hS1, g4, g5, g1, g2, g6⟩ h4
      rw [xr_setF ha hs]
      exact hP1
    have hsame : ∀ x9, s.fieldFound? (Tn r.2.1).1 (Tn r.2.1).2.1 (Tn r.2.1).2.2.1 = some x9 → s.fieldFound? r.1 (Tn r.2.1).2.1 (Tn r.2.1).2.2.1 = some x9 := fun x9 h9 => by
      rcases f3 with f3 | f3
      · rw [← f3]; exact h9
      · exact u_same (hts _ _ f3) x9 h9
    have hd2 : parseFieldDescriptor (Tn r.2.1).2.2.1 = some (xm_ty ci r.2.1) := hty r.2.1 f1
    have hl : r.2.1 < ((List.range (xm_N ci)).map fun k => xr_cv b H0.size (xm_F h (q + 1) k)).length := by rw [List.length_map, List.length_range, hN]; exact f1
    have hfi : xm_fin ci r.2.1 = (Tn r.2.1).2.2.2 := by unfold xm_fin; rw [hc]; rfl
    have hde : xm_decl ci r.2.1 = (Tn r.2.1).1 := by unfold xm_decl; rw [hc]; rfl
    rw [hfi, hde] at hfin
    cases hb2 : (Tn r.2.1).2.2.2 with
    | false => exact va_put (T := Tn) (N := Nn) (C := Cn) C.1 C.2.1 (xk_lays hts hc) (fun _ h => h) (xm_ty ci) hty hnm hown hK hP xr_D hS q (xs_cellO hs ha) hc r.2.1 f1 (hts _ _ f2) hsame hb2 hd2 (xs_narrow hn) (xs_fits hfit) hl hd hkk
    | true =>
      rcases hfin with hfin | ⟨n1, n2⟩
      · rw [hb2] at hfin; cases hfin
      · exact va_putF (T := Tn) (N := Nn) (C := Cn) C.1 C.2.1 (xk_lays hts hc) (fun _ h => h) (xm_ty ci) hty hnm hown hK hP xr_D hS q (xs_cellO hs ha) hc r.2.1 f1 (hts _ _ f2) hsame hb2 (hname.trans n1) n2 hd2 (xs_narrow hn) (xs_fits hfit) hl hd hkk
/-- before a cell is made: where it will lie -/
theorem xs_size {h : xm_H} {H : Heap} {locs : List Loc} {T : State} (hsz : s.heap.size ≤ H0.size + nc0) (h1 : nc0 ≤ xm_nc h) (hn : xm_nc h + 1 = xm_n h) (h3 : xs_Rel b L xs H0 dC dI cI cJ h H locs) (hT : T.heap = H) (X : Stand p l e R s m args below meth c T locs (xm_nc h - nc0) (xm_ns h - ns0)) : H.size = H0.size + xm_nc h := by
  have u := X.heapSize
  rw [hT] at u
  obtain ⟨hP, hS, -⟩ := h3
  have lo : H0.size + xm_nc h ≤ H.size := by
    by_cases h0 : xm_nc h = 0
    · have := hS.1; omega
    · have hlt := (hP (xm_nc h - 1) _ (xr_ws_get (by omega))).lt
      have e : H0.size + (xm_nc h - 1) < H.size := hlt
      omega
  omega
theorem xs_new (C : xs_Ctx p b L xs H0 dC dI cI cJ mi s m args meth c) {d : Nat} (hR : xs_Room R d nc0 ns0) (hsz : s.heap.size ≤ H0.size + nc0) {res : xm_H × Outcome} {pc : Nat} {ls st : List Value} {h : xm_H} {ci idx jw : Nat} (hn : xm_nc h + 1 = xm_n h) (hc0 : xm_nc h + 1 ≤ 1076) (hs0 : xm_ns h + xm_N ci ≤ 21520) (hf : xm_find xt_N (xm_oc mi) idx 0 = some (ci, jw)) (hd : decode (xm_code mi) pc = .ok (.new idx, 3)) (k : xs_At p l e R s m args below meth c b L xs H0 dC dI cI cJ mi nc0 ns0 res (pc + 3) ls (.ref (xm_n h) :: st) (xm_new h (0, ci) (xm_dflt ci) (xm_N ci))) : xs_At p l e R s m args below meth c b L xs H0 dC dI cI cJ mi nc0 ns0 res pc ls st h := by
  intro H LS locs h1 h2 h3 h4 T hT X
  have hsize := xs_size hsz h1 hn h3 hT X
  obtain ⟨hP, hS, g4, g5, g1, g2, g6⟩ := id h3
  obtain ⟨-, -, -, -, -, hown, hname, hts, hK, -, -, -⟩ := id C
  have hF := List.all_eq_true.mp xk_N_all _ (xm_find_mem hf)
  unfold xk_Nb at hF
  dsimp only at hF
  obtain ⟨z, hc, q1⟩ : ∃ z, xt_cl[ci]? = some z ∧ xk_at jw (.classLink (xt_O.getD (xm_oc mi) "") idx z.1) = true := by
    cases hc : xt_cl[ci]? with
    | none => rw [hc] at hF; cases hF
    | some z => rw [hc] at hF; exact ⟨z, rfl, hF⟩
  obtain ⟨wv, -, -, q2, q3⟩ := xk_L_get hc
  obtain ⟨Cn, Tn, Nn⟩ := z
  have hN : xm_N ci = Nn := by unfold xm_N; rw [hc]; rfl
  rw [xk_own mi] at q1
  have hKn := hK.1 ci _ hc
  refine (W.newcK (n := Nn) (C := Cn) C.1 C.2.1 hown (hts _ _ q1) (hts _ _ q2) (hts _ _ q3) (g := F0 m pc LS (st.map (xr_cv b H0.size))) rfl hd (by have := hR.2.2.1; omega) (by have := hR.2.2.2; omega) hKn.2.1 hsize fun H' kC hkC e1 z1 o1 => ?_) T hT X
  have e2 : (xm_nc h - nc0) + 1 = xm_nc (xm_new h (0, ci) (xm_dflt ci) (xm_N ci)) - nc0 := by show _ = xm_nc h + 1 - nc0; omega
  have e3 : (xm_ns h - ns0) + Nn = xm_ns (xm_new h (0, ci) (xm_dflt ci) (xm_N ci)) - ns0 := by show _ = xm_ns h + xm_N ci - ns0; omega
  rw [e2, e3]
  have e4 : Value.ref (H0.size + xm_nc h) = xr_cv b H0.size (.ref (xm_n h)) := by rw [← hn]; rfl
  show W p l e R s m args below meth c H' locs _ _ _ (F0 m (pc + 3) LS (.ref (H0.size + xm_nc h) :: st.map (xr_cv b H0.size)))
  rw [e4]
  refine k H' LS locs (by show nc0 ≤ xm_nc h + 1; omega) (by show ns0 ≤ xm_ns h + xm_N ci; omega) ⟨?_, ⟨Nat.le_trans hS.1 (by omega), fun x y1 y2 => (o1 x (by have := hS.1; omega)).trans (hS.2.1 x y1 y2), hS.2.2⟩, by show 1 ≤ xm_n h + 1; omega, by show xm_n h + 1 ≤ xm_nc h + 1 + 1; omega, ?_, ?_, hc0, hs0⟩ h4
  · rw [xr_new (by omega)]
    refine va_P.app (hP.kept (fun k x hx => o1 x.1 (by rw [← hsize]; exact (hP k x hx).lt))) (fun k x hx => ?_)
    have hz : k < 1 := (List.getElem?_eq_some_iff.mp hx).1
    rw [show k = 0 by omega] at hx
    cases hx
    have ec : xr_cell b H0.size cI cJ (xm_new h (0, ci) (xm_dflt ci) (xm_N ci)) (xm_n h) = .inr (ci, (List.range (xm_N ci)).map fun k => xr_cv b H0.size (xm_dflt ci k)) := by
      have s1 : xm_S (xm_new h (0, ci) (xm_dflt ci) (xm_N ci)) (xm_n h) = (0, ci) := va_up_self _ _ _
      have s2 : xm_F (xm_new h (0, ci) (xm_dflt ci) (xm_N ci)) (xm_n h) = xm_dflt ci := va_up_self _ _ _
      unfold xr_cell
      rw [s1, s2]
      rfl
    show va_at _ _ (H0.size + (xm_n h - 1), _) H'
    rw [ec, show H0.size + (xm_n h - 1) = H0.size + xm_nc h by omega]
    refine ⟨_, hc, (u_born (xm_ty ci) (xk_lays hts hc) (fun _ h => h) hKn hkC e1 (xk_types hc)).to fun j hj => ?_⟩
    show defaultValue (xm_ty ci j) = vp_V _ j
    unfold vp_V
    rw [List.getD_eq_getElem?_getD, List.getElem?_map, List.getElem?_range (by rw [hN]; exact hj)]
    exact (xs_dflt b H0.size (xm_ty ci j)).symm
  · rw [xs_new0S (by omega)]
    exact g1
  · rw [xs_new0A (by omega)]
    exact g2
theorem xs_newi (C : xs_Ctx p b L xs H0 dC dI cI cJ mi s m args meth c) {d : Nat} (hR : xs_Room R d nc0 ns0) (hsz : s.heap.size ≤ H0.size + nc0) {res : xm_H × Outcome} {pc : Nat} {ls st : List Value} {h : xm_H} {x : Int32} (hn : xm_nc h + 1 = xm_n h) (hc0 : xm_nc h + 1 ≤ 1076) (hx0 : 0 ≤ x) (hx1 : x.toNatClampNeg ≤ 4000) (hs0 : xm_ns h + x.toNatClampNeg ≤ 21520) (hd : decode (xm_code mi) pc = .ok (.newarray .int, 2)) (k : xs_At p l e R s m args below meth c b L xs H0 dC dI cI cJ mi nc0 ns0 res (pc + 2) ls (.ref (xm_n h) :: st) (xm_new h (1, x.toNatClampNeg) (fun _ => .null) x.toNatClampNeg)) : xs_At p l e R s m args below meth c b L xs H0 dC dI cI cJ mi nc0 ns0 res pc ls (.int x :: st) h := by
  intro H LS locs h1 h2 h3 h4 T hT X
  have hsize := xs_size hsz h1 hn h3 hT X
  obtain ⟨hP, hS, g4, g5, g1, g2, g6⟩ := id h3
  obtain ⟨-, -, -, -, -, hown, hname, hts, hK, -, -, -⟩ := id C
  refine (va_newaK (N := x.toNatClampNeg) C.1 C.2.1 (atype := .int) (hts _ _ xk_arr_int) (g := F0 m pc LS ((Value.int x :: st).map (xr_cv b H0.size))) rfl hd (n := x) (rest := st.map (xr_cv b H0.size)) rfl (Int32.not_lt.mpr hx0) rfl (by show _ * _ ≤ _; simp only [newarray.typeOf, componentBytes]; omega) (by have := hR.2.2.1; omega) (by have := hR.2.2.2; omega) hsize fun H' cA e1 z1 o1 hAr hNm => ?_) T hT X
  have e2 : (xm_nc h - nc0) + 1 = xm_nc (xm_new h (1, x.toNatClampNeg) (fun _ => .null) x.toNatClampNeg) - nc0 := by show _ = xm_nc h + 1 - nc0; omega
  have e3 : (xm_ns h - ns0) + x.toNatClampNeg = xm_ns (xm_new h (1, x.toNatClampNeg) (fun _ => .null) x.toNatClampNeg) - ns0 := by show _ = xm_ns h + x.toNatClampNeg - ns0; omega
  rw [e2, e3]
  have e4 : Value.ref (H0.size + xm_nc h) = xr_cv b H0.size (.ref (xm_n h)) := by rw [← hn]; rfl
  show W p l e R s m args below meth c H' locs _ _ _ (F0 m (pc + 2) LS (.ref (H0.size + xm_nc h) :: st.map (xr_cv b H0.size)))
  rw [e4]
  refine k H' LS locs (by show nc0 ≤ xm_nc h + 1; omega) (by show ns0 ≤ xm_ns h + x.toNatClampNeg; omega) ⟨?_, ⟨Nat.le_trans hS.1 (by omega), fun x y1 y2 => (o1 x (by have := hS.1; omega)).trans (hS.2.1 x y1 y2), hS.2.2⟩, by show 1 ≤ xm_n h + 1; omega, by show xm_n h + 1 ≤ xm_nc h + 1 + 1; omega, ?_, ?_, hc0, hs0⟩ h4
  · rw [xr_new (by omega)]
    refine va_P.app (hP.kept (fun k x hx => o1 x.1 (by rw [← hsize]; exact (hP k x hx).lt))) (fun k y hx => ?_)
    have hz : k < 1 := (List.getElem?_eq_some_iff.mp hx).1
    rw [show k = 0 by omega] at hx
    cases hx
    have hcA : cA = cI := by
      have r1 := (hK.2 0 _ rfl).2
      exact Option.some.inj (hNm.symm.trans r1)
    subst hcA
    have ec : xr_cell b H0.size cA cJ (xm_new h (1, x.toNatClampNeg) (fun _ => .null) x.toNatClampNeg) (xm_n h) = .inl (cA, x.toNatClampNeg, .inl (fun _ => 0)) := by
      have s1 : xm_S (xm_new h (1, x.toNatClampNeg) (fun _ => .null) x.toNatClampNeg) (xm_n h) = (1, x.toNatClampNeg) := va_up_self _ _ _
      have s2 : xm_A (xm_new h (1, x.toNatClampNeg) (fun _ => .null) x.toNatClampNeg) (xm_n h) = fun _ => 0 := va_up_self _ _ _
      have s3 : xm_L (xm_new h (1, x.toNatClampNeg) (fun _ => .null) x.toNatClampNeg) (xm_n h) = fun _ => 0 := va_up_self _ _ _
      unfold xr_cell
      rw [s1]
      show Sum.inl (cA, x.toNatClampNeg, Sum.inl (xm_A (xm_new h (1, x.toNatClampNeg) (fun _ => .null) x.toNatClampNeg) (xm_n h))) = _
      rw [s2]
    show va_at _ _ (H0.size + (xm_n h - 1), _) H'
    rw [ec, show H0.size + (xm_n h - 1) = H0.size + xm_nc h by omega]
    exact e1
  · rw [xs_new0S (by omega)]
    exact g1
  · rw [xs_new0A (by omega)]
    exact g2
theorem xs_newl (C : xs_Ctx p b L xs H0 dC dI cI cJ mi s m args meth c) {d : Nat} (hR : xs_Room R d nc0 ns0) (hsz : s.heap.size ≤ H0.size + nc0) {res : xm_H × Outcome} {pc : Nat} {ls st : List Value} {h : xm_H} {x : Int32} (hn : xm_nc h + 1 = xm_n h) (hc0 : xm_nc h + 1 ≤ 1076) (hx0 : 0 ≤ x) (hx1 : x.toNatClampNeg ≤ 4000) (hs0 : xm_ns h + x.toNatClampNeg ≤ 21520) (hd : decode (xm_code mi) pc = .ok (.newarray .long, 2)) (k : xs_At p l e R s m args below meth c b L xs H0 dC dI cI cJ mi nc0 ns0 res (pc + 2) ls (.ref (xm_n h) :: st) (xm_new h (2, x.toNatClampNeg) (fun _ => .null) x.toNatClampNeg)) : xs_At p l e R s m args below meth c b L xs H0 dC dI cI cJ mi nc0 ns0 res pc ls (.int x :: st) h := by
  intro H LS locs h1 h2 h3 h4 T hT X
  have hsize := xs_size hsz h1 hn h3 hT X
  obtain ⟨hP, hS, g4, g5, g1, g2, g6⟩ := id h3
  obtain ⟨-, -, -, -, -, hown, hname, hts, hK, -, -, -⟩ := id C
  refine (va_newaK (N := x.toNatClampNeg) C.1 C.2.1 (atype := .long) (hts _ _ xk_arr_long) (g := F0 m pc LS ((Value.int x :: st).map (xr_cv b H0.size))) rfl hd (n := x) (rest := st.map (xr_cv b H0.size)) rfl (Int32.not_lt.mpr hx0) rfl (by show _ * _ ≤ _; simp only [newarray.typeOf, componentBytes]; omega) (by have := hR.2.2.1; omega) (by have := hR.2.2.2; omega) hsize fun H' cA e1 z1 o1 hAr hNm => ?_) T hT X
  have e2 : (xm_nc h - nc0) + 1 = xm_nc (xm_new h (2, x.toNatClampNeg) (fun _ => .null) x.toNatClampNeg) - nc0 := by show _ = xm_nc h + 1 - nc0; omega
  have e3 : (xm_ns h - ns0) + x.toNatClampNeg = xm_ns (xm_new h (2, x.toNatClampNeg) (fun _ => .null) x.toNatClampNeg) - ns0 := by show _ = xm_ns h + x.toNatClampNeg - ns0; omega
  rw [e2, e3]
  have e4 : Value.ref (H0.size + xm_nc h) = xr_cv b H0.size (.ref (xm_n h)) := by rw [← hn]; rfl
  show W p l e R s m args below meth c H' locs _ _ _ (F0 m (pc + 2) LS (.ref (H0.size + xm_nc h) :: st.map (xr_cv b H0.size)))
  rw [e4]
  refine k H' LS locs (by show nc0 ≤ xm_nc h + 1; omega) (by show ns0 ≤ xm_ns h + x.toNatClampNeg; omega) ⟨?_, ⟨Nat.le_trans hS.1 (by omega), fun x y1 y2 => (o1 x (by have := hS.1; omega)).trans (hS.2.1 x y1 y2), hS.2.2⟩, by show 1 ≤ xm_n h + 1; omega, by show xm_n h + 1 ≤ xm_nc h + 1 + 1; omega, ?_, ?_, hc0, hs0⟩ h4
  · rw [xr_new (by omega)]
    refine va_P.app (hP.kept (fun k x hx => o1 x.1 (by rw [← hsize]; exact (hP k x hx).lt))) (fun k y hx => ?_)
    have hz : k < 1 := (List.getElem?_eq_some_iff.mp hx).1
    rw [show k = 0 by omega] at hx
    cases hx
    have hcA : cA = cJ := by
      have r1 := (hK.2 1 _ rfl).2
      exact Option.some.inj (hNm.symm.trans r1)
    subst hcA
    have ec : xr_cell b H0.size cI cA (xm_new h (2, x.toNatClampNeg) (fun _ => .null) x.toNatClampNeg) (xm_n h) = .inl (cA, x.toNatClampNeg, .inr (.inl (fun _ => 0))) := by
      have s1 : xm_S (xm_new h (2, x.toNatClampNeg) (fun _ => .null) x.toNatClampNeg) (xm_n h) = (2, x.toNatClampNeg) := va_up_self _ _ _
      have s2 : xm_A (xm_new h (2, x.toNatClampNeg) (fun _ => .null) x.toNatClampNeg) (xm_n h) = fun _ => 0 := va_up_self _ _ _
      have s3 : xm_L (xm_new h (2, x.toNatClampNeg) (fun _ => .null) x.toNatClampNeg) (xm_n h) = fun _ => 0 := va_up_self _ _ _
      unfold xr_cell
      rw [s1]
      show Sum.inl (cA, x.toNatClampNeg, Sum.inr (Sum.inl (xm_L (xm_new h (2, x.toNatClampNeg) (fun _ => .null) x.toNatClampNeg) (xm_n h)))) = _
      rw [s3]
    show va_at _ _ (H0.size + (xm_n h - 1), _) H'
    rw [ec, show H0.size + (xm_n h - 1) = H0.size + xm_nc h by omega]
    exact e1
  · rw [xs_new0S (by omega)]
    exact g1
  · rw [xs_new0A (by omega)]
    exact g2
theorem xs_ldcw (C : xs_Ctx p b L xs H0 dC dI cI cJ mi s m args meth c) {res : xm_H × Outcome} {pc : Nat} {ls st : List Value} {h : xm_H} {idx : Nat} {v : Int32 × Nat} (hf : xm_find xt_I (xm_oc mi) idx 0 = some v) : (Cond.constant (xm_name mi).cls idx v.1).before args s = true := C.2.2.2.2.2.2.2.1 v.2 _ (by have q := List.all_eq_true.mp xk_I_all _ (xm_find_mem hf); unfold xk_Ib at q; dsimp only at q; rw [xk_own mi] at q; exact q)
theorem xs_ldc (C : xs_Ctx p b L xs H0 dC dI cI cJ mi s m args meth c) {res : xm_H × Outcome} {pc : Nat} {ls st : List Value} {h : xm_H} {idx : Nat} {v : Int32 × Nat} (hf : xm_find xt_I (xm_oc mi) idx 0 = some v) (hd : decode (xm_code mi) pc = .ok (.ldc idx, 2)) (k : xs_At p l e R s m args below meth c b L xs H0 dC dI cI cJ mi nc0 ns0 res (pc + 2) ls (.int v.1 :: st) h) : xs_At p l e R s m args below meth c b L xs H0 dC dI cI cJ mi nc0 ns0 res pc ls st h := fun H LS locs h1 h2 h3 h4 => lv_ldc C.1 C.2.1 C.2.2.2.2.2.1 (xs_ldcw C (pc := pc) (ls := ls) (st := st) (h := h) (res := res) hf) hd (k H LS locs h1 h2 h3 h4)
theorem xs_ldc_w (C : xs_Ctx p b L xs H0 dC dI cI cJ mi s m args meth c) {res : xm_H × Outcome} {pc : Nat} {ls st : List Value} {h : xm_H} {idx : Nat} {v : Int32 × Nat} (hf : xm_find xt_I (xm_oc mi) idx 0 = some v) (hd : decode (xm_code mi) pc = .ok (.ldc_w idx, 3)) (k : xs_At p l e R s m args below meth c b L xs H0 dC dI cI cJ mi nc0 ns0 res (pc + 3) ls (.int v.1 :: st) h) : xs_At p l e R s m args below meth c b L xs H0 dC dI cI cJ mi nc0 ns0 res pc ls st h := fun H LS locs h1 h2 h3 h4 => lv_ldcw C.1 C.2.1 C.2.2.2.2.2.1 (xs_ldcw C (pc := pc) (ls := ls) (st := st) (h := h) (res := res) hf) hd (k H LS locs h1 h2 h3 h4)
theorem xs_ldc2 (C : xs_Ctx p b L xs H0 dC dI cI cJ mi s m args meth c) {res : xm_H × Outcome} {pc : Nat} {ls st : List Value} {h : xm_H} {idx : Nat} {v : Int64 × Nat} (hf : xm_find xt_J (xm_oc mi) idx 0 = some v) (hd : decode (xm_code mi) pc = .ok (.ldc2_w idx, 3)) (k : xs_At p l e R s m args below meth c b L xs H0 dC dI cI cJ mi nc0 ns0 res (pc + 3) ls (.long v.1 :: st) h) : xs_At p l e R s m args below meth c b L xs H0 dC dI cI cJ mi nc0 ns0 res pc ls st h := fun H LS locs h1 h2 h3 h4 => lv_ldc2 C.1 C.2.1 C.2.2.2.2.2.1 (C.2.2.2.2.2.2.2.1 v.2 _ (by have q := List.all_eq_true.mp xk_J_all _ (xm_find_mem hf); unfold xk_Jb at q; dsimp only at q; rw [xk_own mi] at q; exact q)) hd (k H LS locs h1 h2 h3 h4)
theorem xs_B {oc idx k0 : Nat} (hf : (xm_find xt_B oc idx 0).map (·.1) = some k0) : ∃ j, xk_Bb ((oc, idx, 0), (k0, j)) = true := by
  obtain ⟨q, hq, rfl⟩ := Option.map_eq_some_iff.mp hf
  exact ⟨q.2, List.all_eq_true.mp xk_B_all _ (xm_find_mem hq)⟩
theorem xs_mabs (C : xs_Ctx p b L xs H0 dC dI cI cJ mi s m args meth c) {d : Nat} (hR : xs_Room R d nc0 ns0) {res : xm_H × Outcome} {pc : Nat} {ls st : List Value} {h : xm_H} {x : Int32} {idx : Nat} (hw : xm_words st ≤ 8) (hd1 : 1 ≤ d) (hf : (xm_find xt_B (xm_oc mi) idx 0).map (·.1) = some 0) (hd : decode (xm_code mi) pc = .ok (.invokestatic idx, 3)) (k : xs_At p l e R s m args below meth c b L xs H0 dC dI cI cJ mi nc0 ns0 res (pc + 3) ls (.int (if 0 ≤ x then x else 0 - x) :: st) h) : xs_At p l e R s m args below meth c b L xs H0 dC dI cI cJ mi nc0 ns0 res pc ls (.int x :: st) h := fun H LS locs h1 h2 h3 h4 => va_mabs C.1 C.2.1 (C.2.2.1.trans h4.1.symm) C.2.2.2.2.2.1 (by obtain ⟨j, q⟩ := xs_B hf; unfold xk_Bb at q; dsimp only at q; rw [xk_own mi] at q; exact C.2.2.2.2.2.2.2.1 j _ q) (C.2.2.2.2.2.2.2.1 _ _ xk_abs_static) (C.2.2.2.2.2.2.2.1 _ _ xk_math_init) (C.2.2.2.2.2.2.2.1 _ _ xk_abs_code) (by have := hR.1; omega) (by rw [xr_words]; have := hR.2.1; omega) (by have := hR.2.2.1; have := h3.2.2.2.2.2.2.1; omega) (by have := hR.2.2.2; have := h3.2.2.2.2.2.2.2; omega) hd (k H LS locs h1 h2 h3 h4)
theorem xs_mmax (C : xs_Ctx p b L xs H0 dC dI cI cJ mi s m args meth c) {d : Nat} (hR : xs_Room R d nc0 ns0) {res : xm_H × Outcome} {pc : Nat} {ls st : List Value} {h : xm_H} {x y : Int32} {idx : Nat} (hw : xm_words st ≤ 8) (hd1 : 1 ≤ d) (hf : (xm_find xt_B (xm_oc mi) idx 0).map (·.1) = some 1) (hd : decode (xm_code mi) pc = .ok (.invokestatic idx, 3)) (k : xs_At p l e R s m args below meth c b L xs H0 dC dI cI cJ mi nc0 ns0 res (pc + 3) ls (.int (if x < y then y else x) :: st) h) : xs_At p l e R s m args below meth c b L xs H0 dC dI cI cJ mi nc0 ns0 res pc ls (.int y :: .int x :: st) h := fun H LS locs h1 h2 h3 h4 => va_mmax C.1 C.2.1 (C.2.2.1.trans h4.1.symm) C.2.2.2.2.2.1 (by obtain ⟨j, q⟩ := xs_B hf; unfold xk_Bb at q; dsimp only at q; rw [xk_own mi] at q; exact C.2.2.2.2.2.2.2.1 j _ q) (C.2.2.2.2.2.2.2.1 _ _ xk_max_static) (C.2.2.2.2.2.2.2.1 _ _ xk_math_init) (C.2.2.2.2.2.2.2.1 _ _ xk_max_code) (by have := hR.1; omega) (by rw [xr_words]; have := hR.2.1; omega) (by have := hR.2.2.1; have := h3.2.2.2.2.2.2.1; omega) (by have := hR.2.2.2; have := h3.2.2.2.2.2.2.2; omega) hd (k H LS locs h1 h2 h3 h4)
theorem xs_mmin (C : xs_Ctx p b L xs H0 dC dI cI cJ mi s m args meth c) {d : Nat} (hR : xs_Room R d nc0 ns0) {res : xm_H × Outcome} {pc : Nat} {ls st : List Value} {h : xm_H} {x y : Int32} {idx : Nat} (hw : xm_words st ≤ 8) (hd1 : 1 ≤ d) (hf : (xm_find xt_B (xm_oc mi) idx 0).map (·.1) = some 2) (hd : decode (xm_code mi) pc = .ok (.invokestatic idx, 3)) (k : xs_At p l e R s m args below meth c b L xs H0 dC dI cI cJ mi nc0 ns0 res (pc + 3) ls (.int (if y < x then y else x) :: st) h) : xs_At p l e R s m args below meth c b L xs H0 dC dI cI cJ mi nc0 ns0 res pc ls (.int y :: .int x :: st) h := fun H LS locs h1 h2 h3 h4 => va_mmin C.1 C.2.1 (C.2.2.1.trans h4.1.symm) C.2.2.2.2.2.1 (by obtain ⟨j, q⟩ := xs_B hf; unfold xk_Bb at q; dsimp only at q; rw [xk_own mi] at q; exact C.2.2.2.2.2.2.2.1 j _ q) (C.2.2.2.2.2.2.2.1 _ _ xk_min_static) (C.2.2.2.2.2.2.2.1 _ _ xk_math_init) (C.2.2.2.2.2.2.2.1 _ _ xk_min_code) (by have := hR.1; omega) (by rw [xr_words]; have := hR.2.1; omega) (by have := hR.2.2.1; have := h3.2.2.2.2.2.2.1; omega) (by have := hR.2.2.2; have := h3.2.2.2.2.2.2.2; omega) hd (k H LS locs h1 h2 h3 h4)
theorem xs_oinit (C : xs_Ctx p b L xs H0 dC dI cI cJ mi s m args meth c) {d : Nat} (hR : xs_Room R d nc0 ns0) {res : xm_H × Outcome} {pc : Nat} {ls st : List Value} {h : xm_H} {a idx : Nat} (hw : xm_words st ≤ 8) (hd1 : 1 ≤ d) (hf : (xm_find xt_B (xm_oc mi) idx 0).map (·.1) = some 4) (hd : decode (xm_code mi) pc = .ok (.invokespecial idx, 3)) (k : xs_At p l e R s m args below meth c b L xs H0 dC dI cI cJ mi nc0 ns0 res (pc + 3) ls st h) : xs_At p l e R s m args below meth c b L xs H0 dC dI cI cJ mi nc0 ns0 res pc ls (.ref a :: st) h := by
  intro H LS locs h1 h2 h3 h4
  obtain ⟨a', ha⟩ := xs_cvr b H0.size a
  rw [List.map_cons, ha]
  exact W.objInit C.1 C.2.1 C.2.2.2.2.2.1 (by obtain ⟨j, q⟩ := xs_B hf; unfold xk_Bb at q; dsimp only at q; rw [xk_own mi] at q; exact C.2.2.2.2.2.2.2.1 j _ q) (C.2.2.2.2.2.2.2.1 _ _ xk_obj_inst) (C.2.2.2.2.2.2.2.1 _ _ xk_obj_code) (g := F0 m pc LS (.ref a' :: st.map (xr_cv b H0.size))) rfl (h4.1.trans C.2.2.1.symm) rfl hd (by have := hR.1; omega) (by show 2 * 0 + _ + 12 ≤ _; rw [xr_words]; have := hR.2.1; omega) (k H LS locs h1 h2 h3 h4)
theorem xs_copy (C : xs_Ctx p b L xs H0 dC dI cI cJ mi s m args meth c) {d : Nat} (hR : xs_Room R d nc0 ns0) {res : xm_H × Outcome} {pc : Nat} {ls st : List Value} {h : xm_H} {q0 q1 idx : Nat} {sp dp n : Int32} (hw : xm_words st ≤ 8) (hd1 : 1 ≤ d) (hs0 : (xm_S h (q0 + 1)).1 = 1) (ha0 : q0 + 1 < xm_n h) (hs1 : (xm_S h (q1 + 1)).1 = 1) (ha1 : q1 + 1 < xm_n h) (hsp : 0 ≤ sp) (hdp : 0 ≤ dp) (hn : 0 ≤ n) (hb0 : sp.toNatClampNeg + n.toNatClampNeg ≤ (xm_S h (q0 + 1)).2) (hb1 : dp.toNatClampNeg + n.toNatClampNeg ≤ (xm_S h (q1 + 1)).2) (hf : (xm_find xt_B (xm_oc mi) idx 0).map (·.1) = some 3) (hd : decode (xm_code mi) pc = .ok (.invokestatic idx, 3)) (k : xs_At p l e R s m args below meth c b L xs H0 dC dI cI cJ mi nc0 ns0 res (pc + 3) ls st (xm_setA h (q1 + 1) (va_cpy (xm_A h (q0 + 1)) (xm_A h (q1 + 1)) sp.toNatClampNeg dp.toNatClampNeg n.toNatClampNeg))) : xs_At p l e R s m args below meth c b L xs H0 dC dI cI cJ mi nc0 ns0 res pc ls (.int n :: .int dp :: .ref (q1 + 1) :: .int sp :: .ref (q0 + 1) :: st) h := by
  intro H LS locs h1 h2 h3 h4
  obtain ⟨hP, hS, g4, g5, g1, g2, g6⟩ := h3
  obtain ⟨-, -, -, -, -, -, -, -, hK, hX, hbl, -⟩ := id C
  have e0 : xm_S h (q0 + 1) = (1, (xm_S h (q0 + 1)).2) := Prod.ext hs0 rfl
  have e1 : xm_S h (q1 + 1) = (1, (xm_S h (q1 + 1)).2) := Prod.ext hs1 rfl
  refine va_copyi C.1 C.2.1 (C.2.2.1.trans h4.1.symm) C.2.2.2.2.2.1 (by obtain ⟨j, q⟩ := xs_B hf; unfold xk_Bb at q; dsimp only at q; rw [xk_own mi] at q; exact C.2.2.2.2.2.2.2.1 j _ q) (C.2.2.2.2.2.2.2.1 _ _ xk_copy_native) (C.2.2.2.2.2.2.2.1 _ _ xk_copy_static) (C.2.2.2.2.2.2.2.1 _ _ xk_sys_init) hK hP xr_D hS q0 q1 0 0 (xs_cellI e0 ha0) (xs_cellI e1 ha1) rfl rfl rfl (Int32.not_lt.mpr hsp) (Int32.not_lt.mpr hdp) (Int32.not_lt.mpr hn) hb0 hb1 (fun _ _ => rfl) (by have := hR.1; omega) (by rw [xr_words]; have := hR.2.1; have : nativeFrameWords "java/lang/System" "arraycopy" 5 ≤ 34 := (by decide +kernel); omega) hd fun H1 locs1 hP1 hD1 hS1 => ?_
  refine k H1 LS locs1 h1 h2 ⟨?_, hS1, g4, g5, g1, ?_, g6⟩ h4
  · rw [xr_setA ha1 e1]
    exact hP1
  · rw [xs_setA0]
    exact g2
end XS
