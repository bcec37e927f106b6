/-! THE CONSTRUCTORS (by program: wip/whole/gen93.py) -/
section S93
variable {d mi pc pc' k ci N n n' nc nc' ns ns' o fi : Nat} {Q : xm_H × Outcome → Prop} {st ls : List Value} {S : Nat → Nat × Nat} {F : Nat → Nat → Value} {A : Nat → Nat → Int32} {Lo : Nat → Nat → Int64} {x : Int} {v : Value} {h : xm_H}
theorem c_new (hq : xq mi pc (.new k) = true) (hf : (xm_find xt_N (xm_oc mi) k 0).map (·.1) = some ci) (hN : xm_N ci = N) (h1 : nc + 1 = n) (h2 : nc + 1 ≤ 1076) (h3 : ns + N ≤ 21520) (e1 : pc' = pc + 3) (e2 : n' = n + 1) (e3 : nc' = nc + 1) (e4 : ns' = ns + N) : xT d mi pc ls st (n, S, F, A, Lo, nc, ns) Q ↔ xT d mi pc' ls (.ref n :: st) (n', va_up S n (0, ci), va_up F n (xm_dflt ci), va_up A n (fun _ => 0), va_up Lo n (fun _ => 0), nc', ns') Q := by
  subst e1 e2 e3 e4 hN
  obtain ⟨q, g1, g2⟩ := Option.map_eq_some_iff.mp hf
  refine xT_go hq fun go ca => ?_
  simp only [xm_step, g1]
  rw [g2, if_pos ⟨h1, h2, h3⟩]
  rfl
theorem c_newi (hq : xq mi pc (.newarray .int) = true) (hx : x = (N : Int)) (h0 : N ≤ 4000) (h1 : nc + 1 = n) (h2 : nc + 1 ≤ 1076) (h3 : ns + N ≤ 21520) (h4 : 0 ≤ x) (e1 : pc' = pc + 2) (e2 : n' = n + 1) (e3 : nc' = nc + 1) (e4 : ns' = ns + N) : xT d mi pc ls (.int (xI x) :: st) (n, S, F, A, Lo, nc, ns) Q ↔ xT d mi pc' ls (.ref n :: st) (n', va_up S n (1, N), va_up F n (fun _ => .null), va_up A n (fun _ => 0), va_up Lo n (fun _ => 0), nc', ns') Q := by
  subst e1 e2 e3 e4
  have hc : (xI x).toNatClampNeg = N := by rw [xI_clamp h4 (by omega)]; omega
  have h0' : (0 : Int32) ≤ xI x := by rw [← xI_0, xI_le (by omega) (by omega) (by omega) (by omega)]; exact h4
  refine xT_go hq fun go ca => ?_
  simp only [xm_step, xm_1i, hc]
  rw [if_pos ⟨h1, h2, h0', h0, h3⟩]
  rfl
theorem c_newl (hq : xq mi pc (.newarray .long) = true) (hx : x = (N : Int)) (h0 : N ≤ 4000) (h1 : nc + 1 = n) (h2 : nc + 1 ≤ 1076) (h3 : ns + N ≤ 21520) (h4 : 0 ≤ x) (e1 : pc' = pc + 2) (e2 : n' = n + 1) (e3 : nc' = nc + 1) (e4 : ns' = ns + N) : xT d mi pc ls (.int (xI x) :: st) (n, S, F, A, Lo, nc, ns) Q ↔ xT d mi pc' ls (.ref n :: st) (n', va_up S n (2, N), va_up F n (fun _ => .null), va_up A n (fun _ => 0), va_up Lo n (fun _ => 0), nc', ns') Q := by
  subst e1 e2 e3 e4
  have hc : (xI x).toNatClampNeg = N := by rw [xI_clamp h4 (by omega)]; omega
  have h0' : (0 : Int32) ≤ xI x := by rw [← xI_0, xI_le (by omega) (by omega) (by omega) (by omega)]; exact h4
  refine xT_go hq fun go ca => ?_
  simp only [xm_step, xm_1i, hc]
  rw [if_pos ⟨h1, h2, h0', h0, h3⟩]
  rfl
theorem c_putf (hq : xq mi pc (.putfield k) = true) (hf : (xm_find xt_F (xm_oc mi) k ci).map (·.2.1) = some fi) (hS : S o = (0, ci)) (ho : 0 < o ∧ o < n) (hv : narrow (xm_ty ci fi) v = v ∧ fits (xm_ty ci fi) v = true ∧ (xm_fin ci fi = false ∨ ((xm_name mi).name = "<init>" ∧ xm_decl ci fi = (xm_name mi).cls))) (e1 : pc' = pc + 3) : xT d mi pc ls (v :: .ref o :: st) (n, S, F, A, Lo, nc, ns) Q ↔ xT d mi pc' ls st (n, S, xm_up F o fi v, A, Lo, nc, ns) Q := by
  subst e1
  obtain ⟨q, g1, g2⟩ := Option.map_eq_some_iff.mp hf
  refine xT_go hq fun go ca => ?_
  simp only [xm_step, xm_vr, show xm_S (n, S, F, A, Lo, nc, ns) o = (0, ci) from hS]
  rw [if_pos ⟨trivial, ho⟩, g1]
  simp only [g2]
  rw [if_pos hv]
  rfl
theorem c_getf (hq : xq mi pc (.getfield k) = true) (hf : (xm_find xt_F (xm_oc mi) k ci).map (·.2.1) = some fi) (hS : S o = (0, ci)) (ho : 0 < o ∧ o < n) (hv : F o fi = v) (e1 : pc' = pc + 3) : xT d mi pc ls (.ref o :: st) (n, S, F, A, Lo, nc, ns) Q ↔ xT d mi pc' ls (v :: st) (n, S, F, A, Lo, nc, ns) Q := by
  subst e1
  obtain ⟨q, g1, g2⟩ := Option.map_eq_some_iff.mp hf
  refine xT_go hq fun go ca => ?_
  simp only [xm_step, xm_1r, show xm_S (n, S, F, A, Lo, nc, ns) o = (0, ci) from hS]
  rw [if_pos ⟨trivial, ho⟩, g1]
  simp only [g2, show xm_F (n, S, F, A, Lo, nc, ns) o fi = v from hv]
theorem c_obj (hq : xq mi pc (.invokespecial k) = true) (hn : xm_find xt_CI (xm_oc mi) k 0 = none ∧ (xm_find xt_B (xm_oc mi) k 0).map (·.1) = some 4) (hw : xm_words st ≤ 8) (hd : 1 ≤ d) (e1 : pc' = pc + 3) : xT d mi pc ls (.ref o :: st) h Q ↔ xT d mi pc' ls st h Q := by
  subst e1
  refine xT_go hq fun go ca => ?_
  simp only [xm_step, hn.1, hn.2, xm_1r]
  rw [if_pos ⟨hw, hd⟩]
end S93
