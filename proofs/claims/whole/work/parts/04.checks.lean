/-! WHAT THE TABLES SAY: the words by their places in lw_tbl, decided once -/
def xk_keep (w : Cond) : Bool := goodWord w || (match w with
  | .methodLinkNest _ _ _ _ => true
  | .declares _ => true
  | _ => false)
def xk_at (i : Nat) (w : Cond) : Bool := decide (lw_tbl[i]? = some w) && xk_keep w
/-- the words hold -/
def xk_W (args : Array Value) (s : State) : Prop := ∀ (i : Nat) (w : Cond), xk_at i w = true → w.before args s = true
theorem xk_W.of {args : Array Value} {s : State} (h : ∀ w ∈ lw_tbl, w.before args s = true) : xk_W args s := fun i w hw => by
  simp only [xk_at, Bool.and_eq_true, decide_eq_true_eq] at hw
  exact h w (List.mem_of_getElem? hw.1)
/-- they stay so as the tables grow warm -/
theorem xk_W.moved {args args' : Array Value} {s U : State} (hW : s.WarmedH U.vm) (h : xk_W args s) : xk_W args' U := fun i w hw => by
  have h1 := h i w hw
  simp only [xk_at, Bool.and_eq_true, decide_eq_true_eq] at hw
  have hk := hw.2
  unfold xk_keep at hk
  rw [Bool.or_eq_true] at hk
  rcases hk with hk | hk
  · exact word_at hW (good_of_word hk) h1
  · cases w with
    | methodLinkNest a i x hh => exact va_Nw.use rfl (va_Nw.warmM hW (va_Nw.of rfl h1))
    | declares x => exact va_Nw.use rfl (va_Nw.warmD hW (va_Nw.of rfl h1))
    | _ => cases hk
-- fields
def xk_Fb (q : (Nat × Nat × Nat) × (String × Nat × Nat × Nat)) : Bool := match xt_cl[q.1.2.2]? with
  | some r => decide (q.2.2.1 < r.2.2) && (xk_at q.2.2.2.1 (.fieldLink (xt_O.getD q.1.1 "") q.1.2.1 q.2.1 (r.2.1 q.2.2.1).2.1 (r.2.1 q.2.2.1).2.2.1) && (decide ((r.2.1 q.2.2.1).1 = q.2.1) || xk_at q.2.2.2.2 (.sameField q.2.1 (r.2.1 q.2.2.1).1 (r.2.1 q.2.2.1).2.1 (r.2.1 q.2.2.1).2.2.1)))
  | none => false
set_option maxRecDepth 100000 in
theorem xk_F_all : xt_F.all xk_Fb = true := by decide +kernel
-- classes
def xk_Lb (ci : Nat) : Bool := match xt_cl[ci]?, xt_clw[ci]? with
  | some r, some w => (List.range r.2.2).all (fun k => xk_at (w.1.getD k 9999) (u_lay r.1 r.2.1 k) && (decide (parseFieldDescriptor (r.2.1 k).2.2.1 = some (xm_ty ci k)) && (List.range r.2.2).all (fun j => decide (k = j) || decide ((r.2.1 k).2.1 ≠ (r.2.1 j).2.1)))) && (xk_at w.2.1 (.instantiable r.1 r.2.2) && xk_at w.2.2 (.initialized r.1))
  | _, _ => false
set_option maxRecDepth 100000 in
theorem xk_L_all : (List.range 9).all xk_Lb = true := by decide +kernel
-- methods
def xk_Mb (mi : Nat) : Bool := match xt_M[mi]?, xt_Mw[mi]? with
  | some q, some w => decide (xt_O.getD q.1 "" = q.2.1.cls) && ((decide (mi = 0) || (((decide (q.2.2.2.2.2 = []) && xk_at w.1 (.code q.2.1 q.2.2.1 q.2.2.2.1 q.2.2.2.2.1)) || xk_at w.1 (.codeWith q.2.1 q.2.2.1 q.2.2.2.1 q.2.2.2.2.1 q.2.2.2.2.2)) && xk_at w.2 (.initialized q.2.1.cls))) && (plainName q.2.1.cls && (decide (q.2.1.cls ≠ "java/lang/invoke/MethodHandle") && decide (q.2.1.cls ≠ "java/lang/invoke/VarHandle"))))
  | _, _ => false
set_option maxRecDepth 100000 in
theorem xk_M_0 : ((List.range 16).map (· + 0)).all xk_Mb = true := by decide +kernel
set_option maxRecDepth 100000 in
theorem xk_M_1 : ((List.range 16).map (· + 16)).all xk_Mb = true := by decide +kernel
set_option maxRecDepth 100000 in
theorem xk_M_2 : ((List.range 16).map (· + 32)).all xk_Mb = true := by decide +kernel
set_option maxRecDepth 100000 in
theorem xk_M_3 : ((List.range 16).map (· + 48)).all xk_Mb = true := by decide +kernel
set_option maxRecDepth 100000 in
theorem xk_M_4 : ((List.range 16).map (· + 64)).all xk_Mb = true := by decide +kernel
set_option maxRecDepth 100000 in
theorem xk_M_5 : ((List.range 16).map (· + 80)).all xk_Mb = true := by decide +kernel
set_option maxRecDepth 100000 in
theorem xk_M_6 : ((List.range 16).map (· + 96)).all xk_Mb = true := by decide +kernel
set_option maxRecDepth 100000 in
theorem xk_M_7 : ((List.range 16).map (· + 112)).all xk_Mb = true := by decide +kernel
set_option maxRecDepth 100000 in
theorem xk_M_8 : ((List.range 16).map (· + 128)).all xk_Mb = true := by decide +kernel
set_option maxRecDepth 100000 in
theorem xk_M_9 : ((List.range 16).map (· + 144)).all xk_Mb = true := by decide +kernel
set_option maxRecDepth 100000 in
theorem xk_M_10 : ((List.range 4).map (· + 160)).all xk_Mb = true := by decide +kernel
