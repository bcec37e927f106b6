/-! the words of calls, constants, new objects -/
def xk_par (y : MethodName) (n : Nat) : Bool := decide ((parseMethodDescriptor y.desc).map (fun d => d.parameters.length) = some n)
def xk_CSb (q : (Nat × Nat × Nat) × (Nat × Nat × Option String × Nat × Nat)) : Bool :=
  (match q.2.2.2.1 with
  | none => xk_at q.2.2.2.2.1 (.methodLink (xt_O.getD q.1.1 "") q.1.2.1 (xm_name q.2.1))
  | some host => xk_at q.2.2.2.2.1 (.methodLinkNest (xt_O.getD q.1.1 "") q.1.2.1 (xm_name q.2.1) host)) &&
  (xk_at q.2.2.2.2.2 (.static (xm_name q.2.1)) && (xk_par (xm_name q.2.1) q.2.2.1 && (decide (0 < q.2.1) && decide (q.2.1 < 164))))
set_option maxRecDepth 100000 in
theorem xk_CS_all : xt_CS.all xk_CSb = true := by decide +kernel
def xk_CIb (q : (Nat × Nat × Nat) × (Nat × Nat × Option String × Nat × Nat)) : Bool :=
  (match q.2.2.2.1 with
  | none => xk_at q.2.2.2.2.1 (.methodLink (xt_O.getD q.1.1 "") q.1.2.1 (xm_name q.2.1))
  | some host => xk_at q.2.2.2.2.1 (.methodLinkNest (xt_O.getD q.1.1 "") q.1.2.1 (xm_name q.2.1) host)) &&
  (xk_at q.2.2.2.2.2 (.instanceMethod (xm_name q.2.1)) && (xk_par (xm_name q.2.1) q.2.2.1 && ((decide (0 < q.2.1) && decide (q.2.1 < 164)) && (decide ((xm_name q.2.1).name = "<init>") && (decide (xm_hand q.2.1 = []) && decide (xm_ret q.2.1 = none))))))
set_option maxRecDepth 100000 in
theorem xk_CI_all : xt_CI.all xk_CIb = true := by decide +kernel
def xk_CVb (q : (Nat × Nat × Nat) × (Nat × Nat × Option (MethodName × String) × Nat × Nat × Nat × Nat × Nat)) : Bool := match xt_cl[q.1.2.2]? with
  | some z => xk_at q.2.2.2.2.2.2.1 (.instanceMethod (xm_name q.2.1)) && ((decide (0 < q.2.1) && decide (q.2.1 < 164)) && (decide (xm_hand q.2.1 = []) && (match q.2.2.2.1 with
    | none => xk_at q.2.2.2.2.1 (.methodLink (xt_O.getD q.1.1 "") q.1.2.1 (xm_name q.2.1)) && (xk_at q.2.2.2.2.2.1 (.selects z.1 (xm_name q.2.1) (xm_name q.2.1)) && xk_par (xm_name q.2.1) q.2.2.1)
    | some r => xk_at q.2.2.2.2.1 (.methodLink (xt_O.getD q.1.1 "") q.1.2.1 r.1) && (xk_at q.2.2.2.2.2.2.2.1 (.sameMethod r.1.cls r.2 r.1.name r.1.desc) && (xk_at q.2.2.2.2.2.1 (.selects z.1 r.1 (xm_name q.2.1)) && (xk_par r.1 q.2.2.1 && ((decide (r.2 ≠ "java/lang/invoke/MethodHandle") && decide (r.2 ≠ "java/lang/invoke/VarHandle")) && (xk_at q.2.2.2.2.2.2.2.2 (.declares ⟨r.2, r.1.name, r.1.desc⟩) || decide (⟨r.2, r.1.name, r.1.desc⟩ = xm_name q.2.1)))))))))
  | none => false
set_option maxRecDepth 100000 in
theorem xk_CV_all : xt_CV.all xk_CVb = true := by decide +kernel
def xk_Nb (q : (Nat × Nat × Nat) × (Nat × Nat)) : Bool := match xt_cl[q.2.1]? with
  | some z => xk_at q.2.2 (.classLink (xt_O.getD q.1.1 "") q.1.2.1 z.1)
  | none => false
theorem xk_N_all : xt_N.all xk_Nb = true := by decide +kernel
def xk_Ib (q : (Nat × Nat × Nat) × (Int32 × Nat)) : Bool := xk_at q.2.2 (.constant (xt_O.getD q.1.1 "") q.1.2.1 q.2.1)
theorem xk_I_all : xt_I.all xk_Ib = true := by decide +kernel
def xk_Jb (q : (Nat × Nat × Nat) × (Int64 × Nat)) : Bool := xk_at q.2.2 (.constantLong (xt_O.getD q.1.1 "") q.1.2.1 q.2.1)
theorem xk_J_all : xt_J.all xk_Jb = true := by decide +kernel
def xk_Bb (q : (Nat × Nat × Nat) × (Nat × Nat)) : Bool := match q.2.1 with
  | 0 => xk_at q.2.2 (.methodLink (xt_O.getD q.1.1 "") q.1.2.1 Lib.Math.abs.name)
  | 1 => xk_at q.2.2 (.methodLink (xt_O.getD q.1.1 "") q.1.2.1 Lib.Math.max.name)
  | 2 => xk_at q.2.2 (.methodLink (xt_O.getD q.1.1 "") q.1.2.1 Lib.Math.min.name)
  | 3 => xk_at q.2.2 (.methodLink (xt_O.getD q.1.1 "") q.1.2.1 arraycopyName)
  | 4 => xk_at q.2.2 (.methodLink (xt_O.getD q.1.1 "") q.1.2.1 Lib.objectInit)
  | _ => false
theorem xk_B_all : xt_B.all xk_Bb = true := by decide +kernel
theorem xk_abs_static : xk_at 464 (.static Lib.Math.abs.name) = true := by decide +kernel
theorem xk_abs_code : xk_at 465 (.code Lib.Math.abs.name Lib.Math.abs.code 1 (some .int)) = true := by decide +kernel
theorem xk_max_static : xk_at 458 (.static Lib.Math.max.name) = true := by decide +kernel
theorem xk_max_code : xk_at 459 (.code Lib.Math.max.name Lib.Math.max.code 2 (some .int)) = true := by decide +kernel
theorem xk_min_static : xk_at 455 (.static Lib.Math.min.name) = true := by decide +kernel
theorem xk_min_code : xk_at 456 (.code Lib.Math.min.name Lib.Math.min.code 2 (some .int)) = true := by decide +kernel
theorem xk_math_init : xk_at 79 (.initialized "java/lang/Math") = true := by decide +kernel
theorem xk_copy_native : xk_at 546 (.native arraycopyName) = true := by decide +kernel
theorem xk_copy_static : xk_at 545 (.static arraycopyName) = true := by decide +kernel
theorem xk_sys_init : xk_at 77 (.initialized "java/lang/System") = true := by decide +kernel
theorem xk_obj_inst : xk_at 86 (.instanceMethod Lib.objectInit) = true := by decide +kernel
theorem xk_obj_code : xk_at 87 (.code Lib.objectInit ⟨#[0xb1]⟩ 1 none) = true := by decide +kernel
theorem xk_arr_int : xk_at 128 (.arrayClass (newarray.typeOf .int)) = true := by decide +kernel
theorem xk_arr_long : xk_at 1197 (.arrayClass (newarray.typeOf .long)) = true := by decide +kernel
-- read
theorem xm_find_mem {α : Type} {l : List ((Nat × Nat × Nat) × α)} {a b c : Nat} {x : α} (h : xm_find l a b c = some x) : ((a, b, c), x) ∈ l := by
  unfold xm_find at h
  obtain ⟨q, hq, rfl⟩ := Option.map_eq_some_iff.mp h
  have h1 := List.mem_of_find?_eq_some hq
  have h2 := List.find?_some hq
  simp only [Bool.and_eq_true, beq_iff_eq] at h2
  obtain ⟨⟨q1, q2, q3⟩, y⟩ := q
  obtain ⟨rfl, rfl, rfl⟩ := h2
  exact h1
theorem xk_M_get {mi : Nat} (h : mi < 164) : xk_Mb mi = true := by
  have key : ∀ (n j : Nat), ((List.range n).map (· + j)).all xk_Mb = true → j ≤ mi → mi < j + n → xk_Mb mi = true := fun n j hall h1 h2 => by
    have := List.all_eq_true.mp hall mi (List.mem_map.mpr ⟨mi - j, List.mem_range.mpr (by omega), by omega⟩)
    exact this
  by_cases h0 : mi < 16
  · exact key 16 0 xk_M_0 (by omega) h0
  by_cases h16 : mi < 32
  · exact key 16 16 xk_M_1 (by omega) h16
  by_cases h32 : mi < 48
  · exact key 16 32 xk_M_2 (by omega) h32
  by_cases h48 : mi < 64
  · exact key 16 48 xk_M_3 (by omega) h48
  by_cases h64 : mi < 80
  · exact key 16 64 xk_M_4 (by omega) h64
  by_cases h80 : mi < 96
  · exact key 16 80 xk_M_5 (by omega) h80
  by_cases h96 : mi < 112
  · exact key 16 96 xk_M_6 (by omega) h96
  by_cases h112 : mi < 128
  · exact key 16 112 xk_M_7 (by omega) h112
  by_cases h128 : mi < 144
  · exact key 16 128 xk_M_8 (by omega) h128
  by_cases h144 : mi < 160
  · exact key 16 144 xk_M_9 (by omega) h144
  exact key 4 160 xk_M_10 (by omega) h
theorem xk_own (mi : Nat) : xt_O.getD (xm_oc mi) "" = (xm_name mi).cls := by
  by_cases h : mi < 164
  · have h1 := xk_M_get h
    unfold xk_Mb at h1
    split at h1
    · rename_i q w hq hw
      have e : xm_meth mi = q := by unfold xm_meth; rw [List.getD_eq_getElem?_getD, hq]; rfl
      simp only [Bool.and_eq_true, decide_eq_true_eq] at h1
      show xt_O.getD (xm_meth mi).1 "" = (xm_meth mi).2.1.cls
      rw [e]
      exact h1.1
    · cases h1
  · have e : xm_meth mi = (9999, ⟨"", "", ""⟩, ⟨#[]⟩, 0, none, []) := by
      unfold xm_meth
      rw [List.getD_eq_getElem?_getD, List.getElem?_eq_none (by have : xt_M.length = 164 := by decide +kernel
                                                                omega)]
      rfl
    show xt_O.getD (xm_meth mi).1 "" = (xm_meth mi).2.1.cls
    rw [e]
    rfl
/-- a method that is called: its code's word, its class -/
theorem xk_M_word {args : Array Value} {s : State} (hts : xk_W args s) {mi : Nat} (h0 : 0 < mi) (h : mi < 164) :
    ((xm_hand mi = [] ∧ (Cond.code (xm_name mi) (xm_code mi) (xm_maxL mi) (xm_ret mi)).before args s = true) ∨ (Cond.codeWith (xm_name mi) (xm_code mi) (xm_maxL mi) (xm_ret mi) (xm_hand mi)).before args s = true) ∧ (Cond.initialized (xm_name mi).cls).before args s = true ∧ plainName (xm_name mi).cls = true ∧ ((xm_name mi).cls ≠ "java/lang/invoke/MethodHandle" ∧ (xm_name mi).cls ≠ "java/lang/invoke/VarHandle") := by
  have h1 := xk_M_get h
  unfold xk_Mb at h1
  split at h1
  · rename_i q w hq hw
    have e : xm_meth mi = q := by unfold xm_meth; rw [List.getD_eq_getElem?_getD, hq]; rfl
    simp only [Bool.and_eq_true, Bool.or_eq_true, decide_eq_true_eq] at h1
    show ((_ = [] ∧ (Cond.code (xm_meth mi).2.1 _ _ _).before args s = true) ∨ _) ∧ _
    unfold xm_hand xm_name xm_code xm_maxL xm_ret
    rw [e]
    obtain ⟨-, h2, h3, h4, h5⟩ := h1
    rcases h2 with h2 | ⟨h2, h6⟩
    · omega
    · refine ⟨?_, hts _ _ h6, h3, h4, h5⟩
      rcases h2 with ⟨h7, h8⟩ | h8
      · exact Or.inl ⟨h7, hts _ _ h8⟩
      · exact Or.inr (hts _ _ h8)
  · cases h1
theorem xk_cl_lt {ci : Nat} {z : vw_C} (h : xt_cl[ci]? = some z) : ci < 9 := (List.getElem?_eq_some_iff.mp h).1
theorem xk_L_get {ci : Nat} {z : vw_C} (h : xt_cl[ci]? = some z) : ∃ w, xt_clw[ci]? = some w ∧ (∀ k, k < z.2.2 → xk_at (w.1.getD k 9999) (u_lay z.1 z.2.1 k) = true ∧ parseFieldDescriptor (z.2.1 k).2.2.1 = some (xm_ty ci k) ∧ ∀ j, j < z.2.2 → k = j ∨ (z.2.1 k).2.1 ≠ (z.2.1 j).2.1) ∧ xk_at w.2.1 (.instantiable z.1 z.2.2) = true ∧ xk_at w.2.2 (.initialized z.1) = true := by
  have h1 := List.all_eq_true.mp xk_L_all ci (List.mem_range.mpr (xk_cl_lt h))
  unfold xk_Lb at h1
  rw [h] at h1
  split at h1
  · rename_i r w hr hw
    cases hr
    simp only [Bool.and_eq_true, List.all_eq_true, List.mem_range, Bool.or_eq_true, decide_eq_true_eq] at h1
    exact ⟨w, hw, fun k hk => ⟨(h1.1 k hk).1, (h1.1 k hk).2.1, (h1.1 k hk).2.2⟩, h1.2.1, h1.2.2⟩
  · cases h1
theorem xk_lays {args : Array Value} {s : State} (hts : xk_W args s) {ci : Nat} {z : vw_C} (h : xt_cl[ci]? = some z) : ∀ w ∈ u_ws z.1 z.2.1 z.2.2, w.before args s = true := fun w hw => by
  obtain ⟨v, -, h1, -⟩ := xk_L_get h
  obtain ⟨k, hk, rfl⟩ := List.mem_map.mp hw
  exact hts _ _ (h1 k (List.mem_range.mp hk)).1
theorem xk_types {ci : Nat} {z : vw_C} (h : xt_cl[ci]? = some z) : ∀ k, k < z.2.2 → parseFieldDescriptor (z.2.1 k).2.2.1 = some (xm_ty ci k) := fun k hk => by
  obtain ⟨v, -, h1, -⟩ := xk_L_get h
  exact (h1 k hk).2.1
theorem xk_names {ci : Nat} {z : vw_C} (h : xt_cl[ci]? = some z) : ∀ a, a < z.2.2 → ∀ b, b < z.2.2 → a ≠ b → (z.2.1 a).2.1 ≠ (z.2.1 b).2.1 := fun a ha b hb hne => by
  obtain ⟨v, -, h1, -⟩ := xk_L_get h
  rcases (h1 a ha).2.2 b hb with e | e
  · exact absurd e hne
  · exact e
