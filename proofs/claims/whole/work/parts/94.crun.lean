/-! THE CONSTRUCTORS RUN (by program: wip/whole/gen93.py) -/
def f00 (i k : Nat) : Int := if ((i = 2 ∨ i = 5) ∧ k < 3) ∨ (i = 21 ∧ 1 ≤ k ∧ k ≤ 3) then 1 else 0
def a00 (xs : Nat → Int32) (i : Nat) (z : Int) : Int := if i = 0 ∨ 35 ≤ i then (xs z.toNat).toInt else 0
theorem c_ne {α : Type} {f : Nat → α} {i k : Nat} {v : α} (h : i ≠ k) : va_up f k v i = f i := if_neg h
theorem c_eq {α : Type} {f : Nat → α} {k : Nat} {v : α} : va_up f k v k = v := if_pos rfl
theorem c_une {F : Nat → Nat → Value} {o k i : Nat} {v : Value} (h : i ≠ o) : xm_up F o k v i = F i := if_neg h
theorem c_ueq {F : Nat → Nat → Value} {o k : Nat} {v : Value} : xm_up F o k v o = va_up (F o) k v := if_pos rfl
set_option maxRecDepth 100000 in
set_option maxHeartbeats 4000000 in
theorem c_run (L : Nat) (xs : Nat → Int32) (Q : xm_H × Outcome → Prop) (hk : ∀ S F A Lo, S = xhS L → F = xhF f00 → (A = fun i j => xI (a00 xs i (j : Nat))) → xT 11 0 23 [.ref 0, .ref 1, .ref 21, .ref 34, .int (xI 0), .null, .null] [] (35, S, F, A, Lo, 34, 13220) Q) : xT 11 0 0 (xm_locals [.ref 0] 7) [] (xp_h0 L xs) Q := by
  show xT 11 0 0 [.ref 0, .null, .null, .null, .null, .null, .null] [] (1, fun _ => (1, L), fun _ _ => .null, fun _ => xs, fun _ _ => 0, 0, 0) Q
  refine (c_new (k := 8) (ci := 0) (N := 6) (pc' := 3) (n' := 2) (nc' := 1) (ns' := 6) (by decide +kernel) (by decide +kernel) (by decide +kernel) rfl (by decide) (by decide) rfl rfl rfl rfl).mpr ?_
  refine (xT_dup (pc' := 4) (by decide +kernel) rfl (by rfl)).mpr ?_
  refine (xT_special (k := 59) (mj := 23) (na := 0) (vs := [.ref 1]) (rest := [.ref 1]) (by decide +kernel) (by decide +kernel) (by decide +kernel) (by rfl) (by rfl) (by decide) (by rfl) (by decide) (by decide)).mpr ?_
  show xT 10 23 0 [.ref 1, .null, .null, .null] [] _ _
  refine (xT_aload_n (k := 0) (pc' := 1) (v := 1) (by decide +kernel) rfl (by rfl)).mpr ?_
  refine (c_obj (k := 3) (pc' := 4) (by decide +kernel) (by decide +kernel) (by decide) (by decide) rfl).mpr ?_
  refine (xT_aload_n (k := 0) (pc' := 5) (v := 1) (by decide +kernel) rfl (by rfl)).mpr ?_
  refine (c_new (k := 9) (ci := 1) (N := 6) (pc' := 8) (n' := 3) (nc' := 2) (ns' := 12) (by decide +kernel) (by decide +kernel) (by decide +kernel) rfl (by decide) (by decide) rfl rfl rfl rfl).mpr ?_
  refine (xT_dup (pc' := 9) (by decide +kernel) rfl (by rfl)).mpr ?_
  refine (xT_special (k := 11) (mj := 33) (na := 0) (vs := [.ref 2]) (rest := [.ref 2, .ref 1]) (by decide +kernel) (by decide +kernel) (by decide +kernel) (by rfl) (by rfl) (by decide) (by rfl) (by decide) (by decide)).mpr ?_
  show xT 9 33 0 [.ref 2] [] _ _
  refine (xT_aload_n (k := 0) (pc' := 1) (v := 2) (by decide +kernel) rfl (by rfl)).mpr ?_
  refine (c_obj (k := 3) (pc' := 4) (by decide +kernel) (by decide +kernel) (by decide) (by decide) rfl).mpr ?_
  refine (xT_aload_n (k := 0) (pc' := 5) (v := 2) (by decide +kernel) rfl (by rfl)).mpr ?_
  refine (xT_iconst (n := 1) (pc' := 6) (by decide +kernel) rfl).mpr ?_
  refine (c_putf (k := 9) (o := 2) (ci := 1) (fi := 0) (pc' := 9) (by decide +kernel) (by decide +kernel) (by rfl) (by decide) (by decide +kernel) rfl).mpr ?_
  refine (xT_aload_n (k := 0) (pc' := 10) (v := 2) (by decide +kernel) rfl (by rfl)).mpr ?_
  refine (xT_iconst (n := 1) (pc' := 11) (by decide +kernel) rfl).mpr ?_
  refine (c_putf (k := 15) (o := 2) (ci := 1) (fi := 1) (pc' := 14) (by decide +kernel) (by decide +kernel) (by rfl) (by decide) (by decide +kernel) rfl).mpr ?_
  refine (xT_aload_n (k := 0) (pc' := 15) (v := 2) (by decide +kernel) rfl (by rfl)).mpr ?_
  refine (xT_iconst (n := 1) (pc' := 16) (by decide +kernel) rfl).mpr ?_
  refine (c_putf (k := 18) (o := 2) (ci := 1) (fi := 2) (pc' := 19) (by decide +kernel) (by decide +kernel) (by rfl) (by decide) (by decide +kernel) rfl).mpr ?_
  refine (xT_aload_n (k := 0) (pc' := 20) (v := 2) (by decide +kernel) rfl (by rfl)).mpr ?_
  refine (xT_iconst (n := 0) (pc' := 21) (by decide +kernel) rfl).mpr ?_
  refine (c_putf (k := 21) (o := 2) (ci := 1) (fi := 3) (pc' := 24) (by decide +kernel) (by decide +kernel) (by rfl) (by decide) (by decide +kernel) rfl).mpr ?_
  refine (xT_aload_n (k := 0) (pc' := 25) (v := 2) (by decide +kernel) rfl (by rfl)).mpr ?_
  refine (xT_iconst (n := 3) (pc' := 26) (by decide +kernel) rfl).mpr ?_
  refine (c_newi (x := 3) (N := 3) (pc' := 28) (n' := 4) (nc' := 3) (ns' := 15) (by decide +kernel) rfl (by decide) (by decide) (by decide) (by decide) (by decide) rfl rfl rfl rfl).mpr ?_
  refine (c_putf (k := 24) (o := 2) (ci := 1) (fi := 4) (pc' := 31) (by decide +kernel) (by decide +kernel) (by rfl) (by decide) (by decide +kernel) rfl).mpr ?_
  refine (xT_aload_n (k := 0) (pc' := 32) (v := 2) (by decide +kernel) rfl (by rfl)).mpr ?_
  refine (xT_sipush (n := 324) (pc' := 35) (by decide +kernel) rfl (by decide +kernel)).mpr ?_
  refine (c_newi (x := 324) (N := 324) (pc' := 37) (n' := 5) (nc' := 4) (ns' := 339) (by decide +kernel) rfl (by decide) (by decide) (by decide) (by decide) (by decide) rfl rfl rfl rfl).mpr ?_
  refine (c_putf (k := 28) (o := 2) (ci := 1) (fi := 5) (pc' := 40) (by decide +kernel) (by decide +kernel) (by rfl) (by decide) (by decide +kernel) rfl).mpr ?_
  refine (xT_return (by decide +kernel) (by decide +kernel)).mpr ?_
  show xT 10 23 12 [.ref 1, .null, .null, .null] [.ref 2, .ref 1] _ _
  refine (c_putf (k := 12) (o := 1) (ci := 0) (fi := 0) (pc' := 15) (by decide +kernel) (by decide +kernel) (by rfl) (by decide) (by decide +kernel) rfl).mpr ?_
  refine (xT_aload_n (k := 0) (pc' := 16) (v := 1) (by decide +kernel) rfl (by rfl)).mpr ?_
  refine (c_new (k := 9) (ci := 1) (N := 6) (pc' := 19) (n' := 6) (nc' := 5) (ns' := 345) (by decide +kernel) (by decide +kernel) (by decide +kernel) rfl (by decide) (by decide) rfl rfl rfl rfl).mpr ?_
  refine (xT_dup (pc' := 20) (by decide +kernel) rfl (by rfl)).mpr ?_
  refine (xT_special (k := 11) (mj := 33) (na := 0) (vs := [.ref 5]) (rest := [.ref 5, .ref 1]) (by decide +kernel) (by decide +kernel) (by decide +kernel) (by rfl) (by rfl) (by decide) (by rfl) (by decide) (by decide)).mpr ?_
  show xT 9 33 0 [.ref 5] [] _ _
  refine (xT_aload_n (k := 0) (pc' := 1) (v := 5) (by decide +kernel) rfl (by rfl)).mpr ?_
  refine (c_obj (k := 3) (pc' := 4) (by decide +kernel) (by decide +kernel) (by decide) (by decide) rfl).mpr ?_
  refine (xT_aload_n (k := 0) (pc' := 5) (v := 5) (by decide +kernel) rfl (by rfl)).mpr ?_
  refine (xT_iconst (n := 1) (pc' := 6) (by decide +kernel) rfl).mpr ?_
  refine (c_putf (k := 9) (o := 5) (ci := 1) (fi := 0) (pc' := 9) (by decide +kernel) (by decide +kernel) (by rfl) (by decide) (by decide +kernel) rfl).mpr ?_
  refine (xT_aload_n (k := 0) (pc' := 10) (v := 5) (by decide +kernel) rfl (by rfl)).mpr ?_
  refine (xT_iconst (n := 1) (pc' := 11) (by decide +kernel) rfl).mpr ?_
  refine (c_putf (k := 15) (o := 5) (ci := 1) (fi := 1) (pc' := 14) (by decide +kernel) (by decide +kernel) (by rfl) (by decide) (by decide +kernel) rfl).mpr ?_
  refine (xT_aload_n (k := 0) (pc' := 15) (v := 5) (by decide +kernel) rfl (by rfl)).mpr ?_
  refine (xT_iconst (n := 1) (pc' := 16) (by decide +kernel) rfl).mpr ?_
  refine (c_putf (k := 18) (o := 5) (ci := 1) (fi := 2) (pc' := 19) (by decide +kernel) (by decide +kernel) (by rfl) (by decide) (by decide +kernel) rfl).mpr ?_
  refine (xT_aload_n (k := 0) (pc' := 20) (v := 5) (by decide +kernel) rfl (by rfl)).mpr ?_
  refine (xT_iconst (n := 0) (pc' := 21) (by decide +kernel) rfl).mpr ?_
  refine (c_putf (k := 21) (o := 5) (ci := 1) (fi := 3) (pc' := 24) (by decide +kernel) (by decide +kernel) (by rfl) (by decide) (by decide +kernel) rfl).mpr ?_
  refine (xT_aload_n (k := 0) (pc' := 25) (v := 5) (by decide +kernel) rfl (by rfl)).mpr ?_
  refine (xT_iconst (n := 3) (pc' := 26) (by decide +kernel) rfl).mpr ?_
  refine (c_newi (x := 3) (N := 3) (pc' := 28) (n' := 7) (nc' := 6) (ns' := 348) (by decide +kernel) rfl (by decide) (by decide) (by decide) (by decide) (by decide) rfl rfl rfl rfl).mpr ?_
  refine (c_putf (k := 24) (o := 5) (ci := 1) (fi := 4) (pc' := 31) (by decide +kernel) (by decide +kernel) (by rfl) (by decide) (by decide +kernel) rfl).mpr ?_
  refine (xT_aload_n (k := 0) (pc' := 32) (v := 5) (by decide +kernel) rfl (by rfl)).mpr ?_
  refine (xT_sipush (n := 324) (pc' := 35) (by decide +kernel) rfl (by decide +kernel)).mpr ?_
  refine (c_newi (x := 324) (N := 324) (pc' := 37) (n' := 8) (nc' := 7) (ns' := 672) (by decide +kernel) rfl (by decide) (by decide) (by decide) (by decide) (by decide) rfl rfl rfl rfl).mpr ?_
  refine (c_putf (k := 28) (o := 5) (ci := 1) (fi := 5) (pc' := 40) (by decide +kernel) (by decide +kernel) (by rfl) (by decide) (by decide +kernel) rfl).mpr ?_
  refine (xT_return (by decide +kernel) (by decide +kernel)).mpr ?_
  show xT 10 23 23 [.ref 1, .null, .null, .null] [.ref 5, .ref 1] _ _
  refine (c_putf (k := 16) (o := 1) (ci := 0) (fi := 1) (pc' := 26) (by decide +kernel) (by decide +kernel) (by rfl) (by decide) (by decide +kernel) rfl).mpr ?_
  refine (xT_aload_n (k := 0) (pc' := 27) (v := 1) (by decide +kernel) rfl (by rfl)).mpr ?_
  refine (c_new (k := 19) (ci := 2) (N := 5) (pc' := 30) (n' := 9) (nc' := 8) (ns' := 677) (by decide +kernel) (by decide +kernel) (by decide +kernel) rfl (by decide) (by decide) rfl rfl rfl rfl).mpr ?_
  refine (xT_dup (pc' := 31) (by decide +kernel) rfl (by rfl)).mpr ?_
  refine (xT_special (k := 21) (mj := 46) (na := 0) (vs := [.ref 8]) (rest := [.ref 8, .ref 1]) (by decide +kernel) (by decide +kernel) (by decide +kernel) (by rfl) (by rfl) (by decide) (by rfl) (by decide) (by decide)).mpr ?_
  show xT 9 46 0 [.ref 8] [] _ _
  refine (xT_aload_n (k := 0) (pc' := 1) (v := 8) (by decide +kernel) rfl (by rfl)).mpr ?_
  refine (c_obj (k := 3) (pc' := 4) (by decide +kernel) (by decide +kernel) (by decide) (by decide) rfl).mpr ?_
  refine (xT_aload_n (k := 0) (pc' := 5) (v := 8) (by decide +kernel) rfl (by rfl)).mpr ?_
  refine (xT_iconst (n := 0) (pc' := 6) (by decide +kernel) rfl).mpr ?_
  refine (c_putf (k := 9) (o := 8) (ci := 2) (fi := 0) (pc' := 9) (by decide +kernel) (by decide +kernel) (by rfl) (by decide) (by decide +kernel) rfl).mpr ?_
  refine (xT_aload_n (k := 0) (pc' := 10) (v := 8) (by decide +kernel) rfl (by rfl)).mpr ?_
  refine (xT_iconst (n := 0) (pc' := 11) (by decide +kernel) rfl).mpr ?_
  refine (c_putf (k := 15) (o := 8) (ci := 2) (fi := 1) (pc' := 14) (by decide +kernel) (by decide +kernel) (by rfl) (by decide) (by decide +kernel) rfl).mpr ?_
  refine (xT_aload_n (k := 0) (pc' := 15) (v := 8) (by decide +kernel) rfl (by rfl)).mpr ?_
  refine (xT_sipush (n := 1200) (pc' := 18) (by decide +kernel) rfl (by decide +kernel)).mpr ?_
  refine (c_newi (x := 1200) (N := 1200) (pc' := 20) (n' := 10) (nc' := 9) (ns' := 1877) (by decide +kernel) rfl (by decide) (by decide) (by decide) (by decide) (by decide) rfl rfl rfl rfl).mpr ?_
  refine (c_putf (k := 19) (o := 8) (ci := 2) (fi := 2) (pc' := 23) (by decide +kernel) (by decide +kernel) (by rfl) (by decide) (by decide +kernel) rfl).mpr ?_
  refine (xT_aload_n (k := 0) (pc' := 24) (v := 8) (by decide +kernel) rfl (by rfl)).mpr ?_
  refine (xT_iconst (n := 0) (pc' := 25) (by decide +kernel) rfl).mpr ?_
  refine (c_putf (k := 23) (o := 8) (ci := 2) (fi := 3) (pc' := 28) (by decide +kernel) (by decide +kernel) (by rfl) (by decide) (by decide +kernel) rfl).mpr ?_
  refine (xT_aload_n (k := 0) (pc' := 29) (v := 8) (by decide +kernel) rfl (by rfl)).mpr ?_
  refine (xT_iconst (n := 0) (pc' := 30) (by decide +kernel) rfl).mpr ?_
  refine (c_putf (k := 26) (o := 8) (ci := 2) (fi := 4) (pc' := 33) (by decide +kernel) (by decide +kernel) (by rfl) (by decide) (by decide +kernel) rfl).mpr ?_
  refine (xT_return (by decide +kernel) (by decide +kernel)).mpr ?_
  show xT 10 23 34 [.ref 1, .null, .null, .null] [.ref 8, .ref 1] _ _
  refine (c_putf (k := 22) (o := 1) (ci := 0) (fi := 2) (pc' := 37) (by decide +kernel) (by decide +kernel) (by rfl) (by decide) (by decide +kernel) rfl).mpr ?_
  refine (xT_aload_n (k := 0) (pc' := 38) (v := 1) (by decide +kernel) rfl (by rfl)).mpr ?_
  refine (c_new (k := 19) (ci := 2) (N := 5) (pc' := 41) (n' := 11) (nc' := 10) (ns' := 1882) (by decide +kernel) (by decide +kernel) (by decide +kernel) rfl (by decide) (by decide) rfl rfl rfl rfl).mpr ?_
  refine (xT_dup (pc' := 42) (by decide +kernel) rfl (by rfl)).mpr ?_
  refine (xT_special (k := 21) (mj := 46) (na := 0) (vs := [.ref 10]) (rest := [.ref 10, .ref 1]) (by decide +kernel) (by decide +kernel) (by decide +kernel) (by rfl) (by rfl) (by decide) (by rfl) (by decide) (by decide)).mpr ?_
  show xT 9 46 0 [.ref 10] [] _ _
  refine (xT_aload_n (k := 0) (pc' := 1) (v := 10) (by decide +kernel) rfl (by rfl)).mpr ?_
  refine (c_obj (k := 3) (pc' := 4) (by decide +kernel) (by decide +kernel) (by decide) (by decide) rfl).mpr ?_
  refine (xT_aload_n (k := 0) (pc' := 5) (v := 10) (by decide +kernel) rfl (by rfl)).mpr ?_
  refine (xT_iconst (n := 0) (pc' := 6) (by decide +kernel) rfl).mpr ?_
  refine (c_putf (k := 9) (o := 10) (ci := 2) (fi := 0) (pc' := 9) (by decide +kernel) (by decide +kernel) (by rfl) (by decide) (by decide +kernel) rfl).mpr ?_
  refine (xT_aload_n (k := 0) (pc' := 10) (v := 10) (by decide +kernel) rfl (by rfl)).mpr ?_
  refine (xT_iconst (n := 0) (pc' := 11) (by decide +kernel) rfl).mpr ?_
  refine (c_putf (k := 15) (o := 10) (ci := 2) (fi := 1) (pc' := 14) (by decide +kernel) (by decide +kernel) (by rfl) (by decide) (by decide +kernel) rfl).mpr ?_
  refine (xT_aload_n (k := 0) (pc' := 15) (v := 10) (by decide +kernel) rfl (by rfl)).mpr ?_
  refine (xT_sipush (n := 1200) (pc' := 18) (by decide +kernel) rfl (by decide +kernel)).mpr ?_
  refine (c_newi (x := 1200) (N := 1200) (pc' := 20) (n' := 12) (nc' := 11) (ns' := 3082) (by decide +kernel) rfl (by decide) (by decide) (by decide) (by decide) (by decide) rfl rfl rfl rfl).mpr ?_
  refine (c_putf (k := 19) (o := 10) (ci := 2) (fi := 2) (pc' := 23) (by decide +kernel) (by decide +kernel) (by rfl) (by decide) (by decide +kernel) rfl).mpr ?_
  refine (xT_aload_n (k := 0) (pc' := 24) (v := 10) (by decide +kernel) rfl (by rfl)).mpr ?_
  refine (xT_iconst (n := 0) (pc' := 25) (by decide +kernel) rfl).mpr ?_
  refine (c_putf (k := 23) (o := 10) (ci := 2) (fi := 3) (pc' := 28) (by decide +kernel) (by decide +kernel) (by rfl) (by decide) (by decide +kernel) rfl).mpr ?_
  refine (xT_aload_n (k := 0) (pc' := 29) (v := 10) (by decide +kernel) rfl (by rfl)).mpr ?_
  refine (xT_iconst (n := 0) (pc' := 30) (by decide +kernel) rfl).mpr ?_
  refine (c_putf (k := 26) (o := 10) (ci := 2) (fi := 4) (pc' := 33) (by decide +kernel) (by decide +kernel) (by rfl) (by decide) (by decide +kernel) rfl).mpr ?_
  refine (xT_return (by decide +kernel) (by decide +kernel)).mpr ?_
  show xT 10 23 45 [.ref 1, .null, .null, .null] [.ref 10, .ref 1] _ _
  refine (c_putf (k := 26) (o := 1) (ci := 0) (fi := 3) (pc' := 48) (by decide +kernel) (by decide +kernel) (by rfl) (by decide) (by decide +kernel) rfl).mpr ?_
  refine (c_new (k := 29) (ci := 3) (N := 3) (pc' := 51) (n' := 13) (nc' := 12) (ns' := 3085) (by decide +kernel) (by decide +kernel) (by decide +kernel) rfl (by decide) (by decide) rfl rfl rfl rfl).mpr ?_
  refine (xT_dup (pc' := 52) (by decide +kernel) rfl (by rfl)).mpr ?_
  refine (xT_special (k := 31) (mj := 70) (na := 0) (vs := [.ref 12]) (rest := [.ref 12]) (by decide +kernel) (by decide +kernel) (by decide +kernel) (by rfl) (by rfl) (by decide) (by rfl) (by decide) (by decide)).mpr ?_
  show xT 9 70 0 [.ref 12] [] _ _
  refine (xT_aload_n (k := 0) (pc' := 1) (v := 12) (by decide +kernel) rfl (by rfl)).mpr ?_
  refine (c_obj (k := 3) (pc' := 4) (by decide +kernel) (by decide +kernel) (by decide) (by decide) rfl).mpr ?_
  refine (xT_aload_n (k := 0) (pc' := 5) (v := 12) (by decide +kernel) rfl (by rfl)).mpr ?_
  refine (xT_bipush (n := 108) (pc' := 7) (by decide +kernel) rfl (by decide +kernel)).mpr ?_
  refine (c_newi (x := 108) (N := 108) (pc' := 9) (n' := 14) (nc' := 13) (ns' := 3193) (by decide +kernel) rfl (by decide) (by decide) (by decide) (by decide) (by decide) rfl rfl rfl rfl).mpr ?_
  refine (c_putf (k := 9) (o := 12) (ci := 3) (fi := 0) (pc' := 12) (by decide +kernel) (by decide +kernel) (by rfl) (by decide) (by decide +kernel) rfl).mpr ?_
  refine (xT_return (by decide +kernel) (by decide +kernel)).mpr ?_
  show xT 10 23 55 [.ref 1, .null, .null, .null] [.ref 12] _ _
  refine (xT_astore_n (k := 1) (pc' := 56) (ls' := [.ref 1, .ref 12, .null, .null]) (by decide +kernel) rfl (by decide) (by rfl)).mpr ?_
  refine (c_new (k := 32) (ci := 4) (N := 7) (pc' := 59) (n' := 15) (nc' := 14) (ns' := 3200) (by decide +kernel) (by decide +kernel) (by decide +kernel) rfl (by decide) (by decide) rfl rfl rfl rfl).mpr ?_
  refine (xT_dup (pc' := 60) (by decide +kernel) rfl (by rfl)).mpr ?_
  refine (xT_aload_n (k := 0) (pc' := 61) (v := 1) (by decide +kernel) rfl (by rfl)).mpr ?_
  refine (c_getf (k := 22) (o := 1) (ci := 0) (fi := 2) (pc' := 64) (v := .ref 8) (by decide +kernel) (by decide +kernel) (by rfl) (by decide) (by rfl) rfl).mpr ?_
  refine (xT_aload_n (k := 0) (pc' := 65) (v := 1) (by decide +kernel) rfl (by rfl)).mpr ?_
  refine (c_getf (k := 26) (o := 1) (ci := 0) (fi := 3) (pc' := 68) (v := .ref 10) (by decide +kernel) (by decide +kernel) (by rfl) (by decide) (by rfl) rfl).mpr ?_
  refine (xT_special (k := 34) (mj := 58) (na := 2) (vs := [.ref 14, .ref 8, .ref 10]) (rest := [.ref 14]) (by decide +kernel) (by decide +kernel) (by decide +kernel) (by rfl) (by rfl) (by decide) (by rfl) (by decide) (by decide)).mpr ?_
  show xT 9 58 0 [.ref 14, .ref 8, .ref 10] [] _ _
  refine (xT_aload_n (k := 0) (pc' := 1) (v := 14) (by decide +kernel) rfl (by rfl)).mpr ?_
  refine (xT_aload_n (k := 1) (pc' := 2) (v := 8) (by decide +kernel) rfl (by rfl)).mpr ?_
  refine (xT_aload_n (k := 2) (pc' := 3) (v := 10) (by decide +kernel) rfl (by rfl)).mpr ?_
  refine (xT_special (k := 3) (mj := 55) (na := 2) (vs := [.ref 14, .ref 8, .ref 10]) (rest := []) (by decide +kernel) (by decide +kernel) (by decide +kernel) (by rfl) (by rfl) (by decide) (by rfl) (by decide) (by decide)).mpr ?_
  show xT 8 55 0 [.ref 14, .ref 8, .ref 10] [] _ _
  refine (xT_aload_n (k := 0) (pc' := 1) (v := 14) (by decide +kernel) rfl (by rfl)).mpr ?_
  refine (c_obj (k := 1) (pc' := 4) (by decide +kernel) (by decide +kernel) (by decide) (by decide) rfl).mpr ?_
  refine (xT_aload_n (k := 0) (pc' := 5) (v := 14) (by decide +kernel) rfl (by rfl)).mpr ?_
  refine (xT_aload_n (k := 1) (pc' := 6) (v := 8) (by decide +kernel) rfl (by rfl)).mpr ?_
  refine (c_putf (k := 7) (o := 14) (ci := 4) (fi := 0) (pc' := 9) (by decide +kernel) (by decide +kernel) (by rfl) (by decide) (by decide +kernel) rfl).mpr ?_
  refine (xT_aload_n (k := 0) (pc' := 10) (v := 14) (by decide +kernel) rfl (by rfl)).mpr ?_
  refine (xT_aload_n (k := 2) (pc' := 11) (v := 10) (by decide +kernel) rfl (by rfl)).mpr ?_
  refine (c_putf (k := 13) (o := 14) (ci := 4) (fi := 1) (pc' := 14) (by decide +kernel) (by decide +kernel) (by rfl) (by decide) (by decide +kernel) rfl).mpr ?_
  refine (xT_return (by decide +kernel) (by decide +kernel)).mpr ?_
  show xT 9 58 6 [.ref 14, .ref 8, .ref 10] [] _ _
  refine (xT_aload_n (k := 0) (pc' := 7) (v := 14) (by decide +kernel) rfl (by rfl)).mpr ?_
  refine (xT_bipush (n := 126) (pc' := 9) (by decide +kernel) rfl (by decide +kernel)).mpr ?_
  refine (c_newi (x := 126) (N := 126) (pc' := 11) (n' := 16) (nc' := 15) (ns' := 3326) (by decide +kernel) rfl (by decide) (by decide) (by decide) (by decide) (by decide) rfl rfl rfl rfl).mpr ?_
  refine (c_putf (k := 9) (o := 14) (ci := 4) (fi := 3) (pc' := 14) (by decide +kernel) (by decide +kernel) (by rfl) (by decide) (by decide +kernel) rfl).mpr ?_
  refine (xT_aload_n (k := 0) (pc' := 15) (v := 14) (by decide +kernel) rfl (by rfl)).mpr ?_
  refine (xT_bipush (n := 126) (pc' := 17) (by decide +kernel) rfl (by decide +kernel)).mpr ?_
  refine (c_newi (x := 126) (N := 126) (pc' := 19) (n' := 17) (nc' := 16) (ns' := 3452) (by decide +kernel) rfl (by decide) (by decide) (by decide) (by decide) (by decide) rfl rfl rfl rfl).mpr ?_
  refine (c_putf (k := 15) (o := 14) (ci := 4) (fi := 4) (pc' := 22) (by decide +kernel) (by decide +kernel) (by rfl) (by decide) (by decide +kernel) rfl).mpr ?_
  refine (xT_return (by decide +kernel) (by decide +kernel)).mpr ?_
  show xT 10 23 71 [.ref 1, .ref 12, .null, .null] [.ref 14] _ _
  refine (xT_astore_n (k := 2) (pc' := 72) (ls' := [.ref 1, .ref 12, .ref 14, .null]) (by decide +kernel) rfl (by decide) (by rfl)).mpr ?_
  refine (c_new (k := 37) (ci := 5) (N := 7) (pc' := 75) (n' := 18) (nc' := 17) (ns' := 3459) (by decide +kernel) (by decide +kernel) (by decide +kernel) rfl (by decide) (by decide) rfl rfl rfl rfl).mpr ?_
  refine (xT_dup (pc' := 76) (by decide +kernel) rfl (by rfl)).mpr ?_
  refine (xT_aload_n (k := 0) (pc' := 77) (v := 1) (by decide +kernel) rfl (by rfl)).mpr ?_
  refine (c_getf (k := 22) (o := 1) (ci := 0) (fi := 2) (pc' := 80) (v := .ref 8) (by decide +kernel) (by decide +kernel) (by rfl) (by decide) (by rfl) rfl).mpr ?_
  refine (xT_aload_n (k := 0) (pc' := 81) (v := 1) (by decide +kernel) rfl (by rfl)).mpr ?_
  refine (c_getf (k := 26) (o := 1) (ci := 0) (fi := 3) (pc' := 84) (v := .ref 10) (by decide +kernel) (by decide +kernel) (by rfl) (by decide) (by rfl) rfl).mpr ?_
  refine (xT_special (k := 39) (mj := 64) (na := 2) (vs := [.ref 17, .ref 8, .ref 10]) (rest := [.ref 17]) (by decide +kernel) (by decide +kernel) (by decide +kernel) (by rfl) (by rfl) (by decide) (by rfl) (by decide) (by decide)).mpr ?_
  show xT 9 64 0 [.ref 17, .ref 8, .ref 10] [] _ _
  refine (xT_aload_n (k := 0) (pc' := 1) (v := 17) (by decide +kernel) rfl (by rfl)).mpr ?_
  refine (xT_aload_n (k := 1) (pc' := 2) (v := 8) (by decide +kernel) rfl (by rfl)).mpr ?_
  refine (xT_aload_n (k := 2) (pc' := 3) (v := 10) (by decide +kernel) rfl (by rfl)).mpr ?_
  refine (xT_special (k := 3) (mj := 55) (na := 2) (vs := [.ref 17, .ref 8, .ref 10]) (rest := []) (by decide +kernel) (by decide +kernel) (by decide +kernel) (by rfl) (by rfl) (by decide) (by rfl) (by decide) (by decide)).mpr ?_
  show xT 8 55 0 [.ref 17, .ref 8, .ref 10] [] _ _
  refine (xT_aload_n (k := 0) (pc' := 1) (v := 17) (by decide +kernel) rfl (by rfl)).mpr ?_
  refine (c_obj (k := 1) (pc' := 4) (by decide +kernel) (by decide +kernel) (by decide) (by decide) rfl).mpr ?_
  refine (xT_aload_n (k := 0) (pc' := 5) (v := 17) (by decide +kernel) rfl (by rfl)).mpr ?_
  refine (xT_aload_n (k := 1) (pc' := 6) (v := 8) (by decide +kernel) rfl (by rfl)).mpr ?_
  refine (c_putf (k := 7) (o := 17) (ci := 5) (fi := 0) (pc' := 9) (by decide +kernel) (by decide +kernel) (by rfl) (by decide) (by decide +kernel) rfl).mpr ?_
  refine (xT_aload_n (k := 0) (pc' := 10) (v := 17) (by decide +kernel) rfl (by rfl)).mpr ?_
  refine (xT_aload_n (k := 2) (pc' := 11) (v := 10) (by decide +kernel) rfl (by rfl)).mpr ?_
  refine (c_putf (k := 13) (o := 17) (ci := 5) (fi := 1) (pc' := 14) (by decide +kernel) (by decide +kernel) (by rfl) (by decide) (by decide +kernel) rfl).mpr ?_
  refine (xT_return (by decide +kernel) (by decide +kernel)).mpr ?_
  show xT 9 64 6 [.ref 17, .ref 8, .ref 10] [] _ _
  refine (xT_aload_n (k := 0) (pc' := 7) (v := 17) (by decide +kernel) rfl (by rfl)).mpr ?_
  refine (xT_sipush (n := 2394) (pc' := 10) (by decide +kernel) rfl (by decide +kernel)).mpr ?_
  refine (c_newi (x := 2394) (N := 2394) (pc' := 12) (n' := 19) (nc' := 18) (ns' := 5853) (by decide +kernel) rfl (by decide) (by decide) (by decide) (by decide) (by decide) rfl rfl rfl rfl).mpr ?_
  refine (c_putf (k := 11) (o := 17) (ci := 5) (fi := 3) (pc' := 15) (by decide +kernel) (by decide +kernel) (by rfl) (by decide) (by decide +kernel) rfl).mpr ?_
  refine (xT_return (by decide +kernel) (by decide +kernel)).mpr ?_
  show xT 10 23 87 [.ref 1, .ref 12, .ref 14, .null] [.ref 17] _ _
  refine (xT_astore_n (k := 3) (pc' := 88) (ls' := [.ref 1, .ref 12, .ref 14, .ref 17]) (by decide +kernel) rfl (by decide) (by rfl)).mpr ?_
  refine (xT_aload_n (k := 0) (pc' := 89) (v := 1) (by decide +kernel) rfl (by rfl)).mpr ?_
  refine (c_new (k := 40) (ci := 6) (N := 4) (pc' := 92) (n' := 20) (nc' := 19) (ns' := 5857) (by decide +kernel) (by decide +kernel) (by decide +kernel) rfl (by decide) (by decide) rfl rfl rfl rfl).mpr ?_
  refine (xT_dup (pc' := 93) (by decide +kernel) rfl (by rfl)).mpr ?_
  refine (xT_aload_n (k := 0) (pc' := 94) (v := 1) (by decide +kernel) rfl (by rfl)).mpr ?_
  refine (c_getf (k := 26) (o := 1) (ci := 0) (fi := 3) (pc' := 97) (v := .ref 10) (by decide +kernel) (by decide +kernel) (by rfl) (by decide) (by rfl) rfl).mpr ?_
  refine (xT_aload_n (k := 1) (pc' := 98) (v := 12) (by decide +kernel) rfl (by rfl)).mpr ?_
  refine (xT_aload_n (k := 2) (pc' := 99) (v := 14) (by decide +kernel) rfl (by rfl)).mpr ?_
  refine (xT_aload_n (k := 3) (pc' := 100) (v := 17) (by decide +kernel) rfl (by rfl)).mpr ?_
  refine (xT_special (k := 42) (mj := 79) (na := 4) (vs := [.ref 19, .ref 10, .ref 12, .ref 14, .ref 17]) (rest := [.ref 19, .ref 1]) (by decide +kernel) (by decide +kernel) (by decide +kernel) (by rfl) (by rfl) (by decide) (by rfl) (by decide) (by decide)).mpr ?_
  show xT 9 79 0 [.ref 19, .ref 10, .ref 12, .ref 14, .ref 17] [] _ _
  refine (xT_aload_n (k := 0) (pc' := 1) (v := 19) (by decide +kernel) rfl (by rfl)).mpr ?_
  refine (c_obj (k := 3) (pc' := 4) (by decide +kernel) (by decide +kernel) (by decide) (by decide) rfl).mpr ?_
  refine (xT_aload_n (k := 0) (pc' := 5) (v := 19) (by decide +kernel) rfl (by rfl)).mpr ?_
  refine (xT_aload_n (k := 1) (pc' := 6) (v := 10) (by decide +kernel) rfl (by rfl)).mpr ?_
  refine (c_putf (k := 9) (o := 19) (ci := 6) (fi := 0) (pc' := 9) (by decide +kernel) (by decide +kernel) (by rfl) (by decide) (by decide +kernel) rfl).mpr ?_
  refine (xT_aload_n (k := 0) (pc' := 10) (v := 19) (by decide +kernel) rfl (by rfl)).mpr ?_
  refine (xT_aload_n (k := 2) (pc' := 11) (v := 12) (by decide +kernel) rfl (by rfl)).mpr ?_
  refine (c_putf (k := 15) (o := 19) (ci := 6) (fi := 1) (pc' := 14) (by decide +kernel) (by decide +kernel) (by rfl) (by decide) (by decide +kernel) rfl).mpr ?_
  refine (xT_aload_n (k := 0) (pc' := 15) (v := 19) (by decide +kernel) rfl (by rfl)).mpr ?_
  refine (xT_aload_n (k := 3) (pc' := 16) (v := 14) (by decide +kernel) rfl (by rfl)).mpr ?_
  refine (c_putf (k := 19) (o := 19) (ci := 6) (fi := 2) (pc' := 19) (by decide +kernel) (by decide +kernel) (by rfl) (by decide) (by decide +kernel) rfl).mpr ?_
  refine (xT_aload_n (k := 0) (pc' := 20) (v := 19) (by decide +kernel) rfl (by rfl)).mpr ?_
  refine (xT_aload (k := 4) (pc' := 22) (v := 17) (by decide +kernel) rfl (by rfl)).mpr ?_
  refine (c_putf (k := 23) (o := 19) (ci := 6) (fi := 3) (pc' := 25) (by decide +kernel) (by decide +kernel) (by rfl) (by decide) (by decide +kernel) rfl).mpr ?_
  refine (xT_return (by decide +kernel) (by decide +kernel)).mpr ?_
  show xT 10 23 103 [.ref 1, .ref 12, .ref 14, .ref 17] [.ref 19, .ref 1] _ _
  refine (c_putf (k := 45) (o := 1) (ci := 0) (fi := 4) (pc' := 106) (by decide +kernel) (by decide +kernel) (by rfl) (by decide) (by decide +kernel) rfl).mpr ?_
  refine (xT_aload_n (k := 0) (pc' := 107) (v := 1) (by decide +kernel) rfl (by rfl)).mpr ?_
  refine (c_new (k := 49) (ci := 7) (N := 12) (pc' := 110) (n' := 21) (nc' := 20) (ns' := 5869) (by decide +kernel) (by decide +kernel) (by decide +kernel) rfl (by decide) (by decide) rfl rfl rfl rfl).mpr ?_
  refine (xT_dup (pc' := 111) (by decide +kernel) rfl (by rfl)).mpr ?_
  refine (xT_aload_n (k := 0) (pc' := 112) (v := 1) (by decide +kernel) rfl (by rfl)).mpr ?_
  refine (c_getf (k := 22) (o := 1) (ci := 0) (fi := 2) (pc' := 115) (v := .ref 8) (by decide +kernel) (by decide +kernel) (by rfl) (by decide) (by rfl) rfl).mpr ?_
  refine (xT_aload_n (k := 0) (pc' := 116) (v := 1) (by decide +kernel) rfl (by rfl)).mpr ?_
  refine (c_getf (k := 26) (o := 1) (ci := 0) (fi := 3) (pc' := 119) (v := .ref 10) (by decide +kernel) (by decide +kernel) (by rfl) (by decide) (by rfl) rfl).mpr ?_
  refine (xT_aload_n (k := 0) (pc' := 120) (v := 1) (by decide +kernel) rfl (by rfl)).mpr ?_
  refine (c_getf (k := 16) (o := 1) (ci := 0) (fi := 1) (pc' := 123) (v := .ref 5) (by decide +kernel) (by decide +kernel) (by rfl) (by decide) (by rfl) rfl).mpr ?_
  refine (xT_aload_n (k := 1) (pc' := 124) (v := 12) (by decide +kernel) rfl (by rfl)).mpr ?_
  refine (xT_aload_n (k := 2) (pc' := 125) (v := 14) (by decide +kernel) rfl (by rfl)).mpr ?_
  refine (xT_aload_n (k := 3) (pc' := 126) (v := 17) (by decide +kernel) rfl (by rfl)).mpr ?_
  refine (xT_special (k := 51) (mj := 88) (na := 6) (vs := [.ref 20, .ref 8, .ref 10, .ref 5, .ref 12, .ref 14, .ref 17]) (rest := [.ref 20, .ref 1]) (by decide +kernel) (by decide +kernel) (by decide +kernel) (by rfl) (by rfl) (by decide) (by rfl) (by decide) (by decide)).mpr ?_
  show xT 9 88 0 [.ref 20, .ref 8, .ref 10, .ref 5, .ref 12, .ref 14, .ref 17] [] _ _
  refine (xT_aload_n (k := 0) (pc' := 1) (v := 20) (by decide +kernel) rfl (by rfl)).mpr ?_
  refine (c_obj (k := 3) (pc' := 4) (by decide +kernel) (by decide +kernel) (by decide) (by decide) rfl).mpr ?_
  refine (xT_aload_n (k := 0) (pc' := 5) (v := 20) (by decide +kernel) rfl (by rfl)).mpr ?_
  refine (xT_aload_n (k := 1) (pc' := 6) (v := 8) (by decide +kernel) rfl (by rfl)).mpr ?_
  refine (c_putf (k := 9) (o := 20) (ci := 7) (fi := 0) (pc' := 9) (by decide +kernel) (by decide +kernel) (by rfl) (by decide) (by decide +kernel) rfl).mpr ?_
  refine (xT_aload_n (k := 0) (pc' := 10) (v := 20) (by decide +kernel) rfl (by rfl)).mpr ?_
  refine (xT_aload_n (k := 2) (pc' := 11) (v := 10) (by decide +kernel) rfl (by rfl)).mpr ?_
  refine (c_putf (k := 15) (o := 20) (ci := 7) (fi := 1) (pc' := 14) (by decide +kernel) (by decide +kernel) (by rfl) (by decide) (by decide +kernel) rfl).mpr ?_
  refine (xT_aload_n (k := 0) (pc' := 15) (v := 20) (by decide +kernel) rfl (by rfl)).mpr ?_
  refine (xT_aload_n (k := 3) (pc' := 16) (v := 5) (by decide +kernel) rfl (by rfl)).mpr ?_
  refine (c_putf (k := 18) (o := 20) (ci := 7) (fi := 2) (pc' := 19) (by decide +kernel) (by decide +kernel) (by rfl) (by decide) (by decide +kernel) rfl).mpr ?_
  refine (xT_aload_n (k := 0) (pc' := 20) (v := 20) (by decide +kernel) rfl (by rfl)).mpr ?_
  refine (xT_aload (k := 4) (pc' := 22) (v := 12) (by decide +kernel) rfl (by rfl)).mpr ?_
  refine (c_putf (k := 22) (o := 20) (ci := 7) (fi := 3) (pc' := 25) (by decide +kernel) (by decide +kernel) (by rfl) (by decide) (by decide +kernel) rfl).mpr ?_
  refine (xT_aload_n (k := 0) (pc' := 26) (v := 20) (by decide +kernel) rfl (by rfl)).mpr ?_
  refine (xT_aload (k := 5) (pc' := 28) (v := 14) (by decide +kernel) rfl (by rfl)).mpr ?_
  refine (c_putf (k := 26) (o := 20) (ci := 7) (fi := 4) (pc' := 31) (by decide +kernel) (by decide +kernel) (by rfl) (by decide) (by decide +kernel) rfl).mpr ?_
  refine (xT_aload_n (k := 0) (pc' := 32) (v := 20) (by decide +kernel) rfl (by rfl)).mpr ?_
  refine (xT_aload (k := 6) (pc' := 34) (v := 17) (by decide +kernel) rfl (by rfl)).mpr ?_
  refine (c_putf (k := 30) (o := 20) (ci := 7) (fi := 5) (pc' := 37) (by decide +kernel) (by decide +kernel) (by rfl) (by decide) (by decide +kernel) rfl).mpr ?_
  refine (xT_return (by decide +kernel) (by decide +kernel)).mpr ?_
  show xT 10 23 129 [.ref 1, .ref 12, .ref 14, .ref 17] [.ref 20, .ref 1] _ _
  refine (c_putf (k := 54) (o := 1) (ci := 0) (fi := 5) (pc' := 132) (by decide +kernel) (by decide +kernel) (by rfl) (by decide) (by decide +kernel) rfl).mpr ?_
  refine (xT_return (by decide +kernel) (by decide +kernel)).mpr ?_
  show xT 11 0 7 [.ref 0, .null, .null, .null, .null, .null, .null] [.ref 1] _ _
  refine (xT_astore_n (k := 1) (pc' := 8) (ls' := [.ref 0, .ref 1, .null, .null, .null, .null, .null]) (by decide +kernel) rfl (by decide) (by rfl)).mpr ?_
  refine (c_new (k := 60) (ci := 8) (N := 39) (pc' := 11) (n' := 22) (nc' := 21) (ns' := 5908) (by decide +kernel) (by decide +kernel) (by decide +kernel) rfl (by decide) (by decide) rfl rfl rfl rfl).mpr ?_
  refine (xT_dup (pc' := 12) (by decide +kernel) rfl (by rfl)).mpr ?_
  refine (xT_special (k := 62) (mj := 107) (na := 0) (vs := [.ref 21]) (rest := [.ref 21]) (by decide +kernel) (by decide +kernel) (by decide +kernel) (by rfl) (by rfl) (by decide) (by rfl) (by decide) (by decide)).mpr ?_
  show xT 10 107 0 [.ref 21] [] _ _
  refine (xT_aload_n (k := 0) (pc' := 1) (v := 21) (by decide +kernel) rfl (by rfl)).mpr ?_
  refine (c_obj (k := 1) (pc' := 4) (by decide +kernel) (by decide +kernel) (by decide) (by decide) rfl).mpr ?_
  refine (xT_aload_n (k := 0) (pc' := 5) (v := 21) (by decide +kernel) rfl (by rfl)).mpr ?_
  refine (xT_iconst (n := 1) (pc' := 6) (by decide +kernel) rfl).mpr ?_
  refine (c_putf (k := 7) (o := 21) (ci := 8) (fi := 1) (pc' := 9) (by decide +kernel) (by decide +kernel) (by rfl) (by decide) (by decide +kernel) rfl).mpr ?_
  refine (xT_aload_n (k := 0) (pc' := 10) (v := 21) (by decide +kernel) rfl (by rfl)).mpr ?_
  refine (xT_iconst (n := 1) (pc' := 11) (by decide +kernel) rfl).mpr ?_
  refine (c_putf (k := 13) (o := 21) (ci := 8) (fi := 2) (pc' := 14) (by decide +kernel) (by decide +kernel) (by rfl) (by decide) (by decide +kernel) rfl).mpr ?_
  refine (xT_aload_n (k := 0) (pc' := 15) (v := 21) (by decide +kernel) rfl (by rfl)).mpr ?_
  refine (xT_iconst (n := 1) (pc' := 16) (by decide +kernel) rfl).mpr ?_
  refine (c_putf (k := 16) (o := 21) (ci := 8) (fi := 3) (pc' := 19) (by decide +kernel) (by decide +kernel) (by rfl) (by decide) (by decide +kernel) rfl).mpr ?_
  refine (xT_aload_n (k := 0) (pc' := 20) (v := 21) (by decide +kernel) rfl (by rfl)).mpr ?_
  refine (xT_iconst (n := 3) (pc' := 21) (by decide +kernel) rfl).mpr ?_
  refine (c_newi (x := 3) (N := 3) (pc' := 23) (n' := 23) (nc' := 22) (ns' := 5911) (by decide +kernel) rfl (by decide) (by decide) (by decide) (by decide) (by decide) rfl rfl rfl rfl).mpr ?_
  refine (c_putf (k := 19) (o := 21) (ci := 8) (fi := 5) (pc' := 26) (by decide +kernel) (by decide +kernel) (by rfl) (by decide) (by decide +kernel) rfl).mpr ?_
  refine (xT_aload_n (k := 0) (pc' := 27) (v := 21) (by decide +kernel) rfl (by rfl)).mpr ?_
  refine (xT_sipush (n := 324) (pc' := 30) (by decide +kernel) rfl (by decide +kernel)).mpr ?_
  refine (c_newi (x := 324) (N := 324) (pc' := 32) (n' := 24) (nc' := 23) (ns' := 6235) (by decide +kernel) rfl (by decide) (by decide) (by decide) (by decide) (by decide) rfl rfl rfl rfl).mpr ?_
  refine (c_putf (k := 23) (o := 21) (ci := 8) (fi := 6) (pc' := 35) (by decide +kernel) (by decide +kernel) (by rfl) (by decide) (by decide +kernel) rfl).mpr ?_
  refine (xT_aload_n (k := 0) (pc' := 36) (v := 21) (by decide +kernel) rfl (by rfl)).mpr ?_
  refine (xT_sipush (n := 1200) (pc' := 39) (by decide +kernel) rfl (by decide +kernel)).mpr ?_
  refine (c_newi (x := 1200) (N := 1200) (pc' := 41) (n' := 25) (nc' := 24) (ns' := 7435) (by decide +kernel) rfl (by decide) (by decide) (by decide) (by decide) (by decide) rfl rfl rfl rfl).mpr ?_
  refine (c_putf (k := 26) (o := 21) (ci := 8) (fi := 8) (pc' := 44) (by decide +kernel) (by decide +kernel) (by rfl) (by decide) (by decide +kernel) rfl).mpr ?_
  refine (xT_aload_n (k := 0) (pc' := 45) (v := 21) (by decide +kernel) rfl (by rfl)).mpr ?_
  refine (xT_iconst (n := 3) (pc' := 46) (by decide +kernel) rfl).mpr ?_
  refine (c_newi (x := 3) (N := 3) (pc' := 48) (n' := 26) (nc' := 25) (ns' := 7438) (by decide +kernel) rfl (by decide) (by decide) (by decide) (by decide) (by decide) rfl rfl rfl rfl).mpr ?_
  refine (c_putf (k := 29) (o := 21) (ci := 8) (fi := 13) (pc' := 51) (by decide +kernel) (by decide +kernel) (by rfl) (by decide) (by decide +kernel) rfl).mpr ?_
  refine (xT_aload_n (k := 0) (pc' := 52) (v := 21) (by decide +kernel) rfl (by rfl)).mpr ?_
  refine (xT_sipush (n := 324) (pc' := 55) (by decide +kernel) rfl (by decide +kernel)).mpr ?_
  refine (c_newi (x := 324) (N := 324) (pc' := 57) (n' := 27) (nc' := 26) (ns' := 7762) (by decide +kernel) rfl (by decide) (by decide) (by decide) (by decide) (by decide) rfl rfl rfl rfl).mpr ?_
  refine (c_putf (k := 32) (o := 21) (ci := 8) (fi := 14) (pc' := 60) (by decide +kernel) (by decide +kernel) (by rfl) (by decide) (by decide +kernel) rfl).mpr ?_
  refine (xT_aload_n (k := 0) (pc' := 61) (v := 21) (by decide +kernel) rfl (by rfl)).mpr ?_
  refine (xT_bipush (n := 108) (pc' := 63) (by decide +kernel) rfl (by decide +kernel)).mpr ?_
  refine (c_newi (x := 108) (N := 108) (pc' := 65) (n' := 28) (nc' := 27) (ns' := 7870) (by decide +kernel) rfl (by decide) (by decide) (by decide) (by decide) (by decide) rfl rfl rfl rfl).mpr ?_
  refine (c_putf (k := 35) (o := 21) (ci := 8) (fi := 19) (pc' := 68) (by decide +kernel) (by decide +kernel) (by rfl) (by decide) (by decide +kernel) rfl).mpr ?_
  refine (xT_aload_n (k := 0) (pc' := 69) (v := 21) (by decide +kernel) rfl (by rfl)).mpr ?_
  refine (xT_bipush (n := 126) (pc' := 71) (by decide +kernel) rfl (by decide +kernel)).mpr ?_
  refine (c_newi (x := 126) (N := 126) (pc' := 73) (n' := 29) (nc' := 28) (ns' := 7996) (by decide +kernel) rfl (by decide) (by decide) (by decide) (by decide) (by decide) rfl rfl rfl rfl).mpr ?_
  refine (c_putf (k := 38) (o := 21) (ci := 8) (fi := 22) (pc' := 76) (by decide +kernel) (by decide +kernel) (by rfl) (by decide) (by decide +kernel) rfl).mpr ?_
  refine (xT_aload_n (k := 0) (pc' := 77) (v := 21) (by decide +kernel) rfl (by rfl)).mpr ?_
  refine (xT_bipush (n := 126) (pc' := 79) (by decide +kernel) rfl (by decide +kernel)).mpr ?_
  refine (c_newi (x := 126) (N := 126) (pc' := 81) (n' := 30) (nc' := 29) (ns' := 8122) (by decide +kernel) rfl (by decide) (by decide) (by decide) (by decide) (by decide) rfl rfl rfl rfl).mpr ?_
  refine (c_putf (k := 41) (o := 21) (ci := 8) (fi := 23) (pc' := 84) (by decide +kernel) (by decide +kernel) (by rfl) (by decide) (by decide +kernel) rfl).mpr ?_
  refine (xT_aload_n (k := 0) (pc' := 85) (v := 21) (by decide +kernel) rfl (by rfl)).mpr ?_
  refine (xT_sipush (n := 2394) (pc' := 88) (by decide +kernel) rfl (by decide +kernel)).mpr ?_
  refine (c_newi (x := 2394) (N := 2394) (pc' := 90) (n' := 31) (nc' := 30) (ns' := 10516) (by decide +kernel) rfl (by decide) (by decide) (by decide) (by decide) (by decide) rfl rfl rfl rfl).mpr ?_
  refine (c_putf (k := 44) (o := 21) (ci := 8) (fi := 24) (pc' := 93) (by decide +kernel) (by decide +kernel) (by rfl) (by decide) (by decide +kernel) rfl).mpr ?_
  refine (xT_aload_n (k := 0) (pc' := 94) (v := 21) (by decide +kernel) rfl (by rfl)).mpr ?_
  refine (xT_sipush (n := 1400) (pc' := 97) (by decide +kernel) rfl (by decide +kernel)).mpr ?_
  refine (c_newi (x := 1400) (N := 1400) (pc' := 99) (n' := 32) (nc' := 31) (ns' := 11916) (by decide +kernel) rfl (by decide) (by decide) (by decide) (by decide) (by decide) rfl rfl rfl rfl).mpr ?_
  refine (c_putf (k := 47) (o := 21) (ci := 8) (fi := 28) (pc' := 102) (by decide +kernel) (by decide +kernel) (by rfl) (by decide) (by decide +kernel) rfl).mpr ?_
  refine (xT_aload_n (k := 0) (pc' := 103) (v := 21) (by decide +kernel) rfl (by rfl)).mpr ?_
  refine (xT_sipush (n := 1300) (pc' := 106) (by decide +kernel) rfl (by decide +kernel)).mpr ?_
  refine (c_newi (x := 1300) (N := 1300) (pc' := 108) (n' := 33) (nc' := 32) (ns' := 13216) (by decide +kernel) rfl (by decide) (by decide) (by decide) (by decide) (by decide) rfl rfl rfl rfl).mpr ?_
  refine (c_putf (k := 50) (o := 21) (ci := 8) (fi := 36) (pc' := 111) (by decide +kernel) (by decide +kernel) (by rfl) (by decide) (by decide +kernel) rfl).mpr ?_
  refine (xT_aload_n (k := 0) (pc' := 112) (v := 21) (by decide +kernel) rfl (by rfl)).mpr ?_
  refine (xT_iconst (n := 3) (pc' := 113) (by decide +kernel) rfl).mpr ?_
  refine (c_newi (x := 3) (N := 3) (pc' := 115) (n' := 34) (nc' := 33) (ns' := 13219) (by decide +kernel) rfl (by decide) (by decide) (by decide) (by decide) (by decide) rfl rfl rfl rfl).mpr ?_
  refine (c_putf (k := 53) (o := 21) (ci := 8) (fi := 38) (pc' := 118) (by decide +kernel) (by decide +kernel) (by rfl) (by decide) (by decide +kernel) rfl).mpr ?_
  refine (xT_return (by decide +kernel) (by decide +kernel)).mpr ?_
  show xT 11 0 15 [.ref 0, .ref 1, .null, .null, .null, .null, .null] [.ref 21] _ _
  refine (xT_astore_n (k := 2) (pc' := 16) (ls' := [.ref 0, .ref 1, .ref 21, .null, .null, .null, .null]) (by decide +kernel) rfl (by decide) (by rfl)).mpr ?_
  refine (xT_iconst (n := 1) (pc' := 17) (by decide +kernel) rfl).mpr ?_
  refine (c_newl (x := 1) (N := 1) (pc' := 19) (n' := 35) (nc' := 34) (ns' := 13220) (by decide +kernel) rfl (by decide) (by decide) (by decide) (by decide) (by decide) rfl rfl rfl rfl).mpr ?_
  refine (xT_astore_n (k := 3) (pc' := 20) (ls' := [.ref 0, .ref 1, .ref 21, .ref 34, .null, .null, .null]) (by decide +kernel) rfl (by decide) (by rfl)).mpr ?_
  refine (xT_iconst (n := 0) (pc' := 21) (by decide +kernel) rfl).mpr ?_
  refine (xT_istore (k := 4) (pc' := 23) (ls' := [.ref 0, .ref 1, .ref 21, .ref 34, .int (xI 0), .null, .null]) (by decide +kernel) rfl (by decide) (by rfl)).mpr ?_
  refine hk _ _ _ _ ?_ ?_ ?_
  · funext i
    by_cases hi : i < 35
    · match i, hi with
      | 0, _ => rfl
      | 1, _ => rfl
      | 2, _ => rfl
      | 3, _ => rfl
      | 4, _ => rfl
      | 5, _ => rfl
      | 6, _ => rfl
      | 7, _ => rfl
      | 8, _ => rfl
      | 9, _ => rfl
      | 10, _ => rfl
      | 11, _ => rfl
      | 12, _ => rfl
      | 13, _ => rfl
      | 14, _ => rfl
      | 15, _ => rfl
      | 16, _ => rfl
      | 17, _ => rfl
      | 18, _ => rfl
      | 19, _ => rfl
      | 20, _ => rfl
      | 21, _ => rfl
      | 22, _ => rfl
      | 23, _ => rfl
      | 24, _ => rfl
      | 25, _ => rfl
      | 26, _ => rfl
      | 27, _ => rfl
      | 28, _ => rfl
      | 29, _ => rfl
      | 30, _ => rfl
      | 31, _ => rfl
      | 32, _ => rfl
      | 33, _ => rfl
      | 34, _ => rfl
      | n + 35, h => exact absurd h (by omega)
    · simp (disch := omega) only [c_ne]
      unfold xhS; split <;> first | omega | rfl
  · funext i
    by_cases hi : i < 35
    · match i, hi with
      | 0, _ => simp (disch := decide) only [c_ne, c_une, c_ueq, c_eq]; rfl
      | 1, _ =>
        simp (disch := decide) only [c_ne, c_une, c_ueq, c_eq]
        funext k
        by_cases hk : k < 6
        · match k, hk with
          | 0, _ => rfl
          | 1, _ => rfl
          | 2, _ => rfl
          | 3, _ => rfl
          | 4, _ => rfl
          | 5, _ => rfl
          | n + 6, h => exact absurd h (by omega)
        · simp (disch := omega) only [c_ne]
          obtain ⟨q, rfl⟩ : ∃ q, k = q + 6 := ⟨k - 6, by omega⟩
          have e3 : f00 1 (q + 6) = 0 := by unfold f00; exact if_neg (by omega)
          have e4 : xm_dflt 0 (q + 6) = xm_dflt 0 5 := rfl
          have e2 : xhK 1 (q + 6) = 1 := by show (if q + 6 < 6 then 0 else 1) = 1; exact if_neg (by omega)
          rw [e4]; unfold xhF; rw [e2, e3]; rfl
      | 2, _ =>
        simp (disch := decide) only [c_ne, c_une, c_ueq, c_eq]
        funext k
        by_cases hk : k < 6
        · match k, hk with
          | 0, _ => rfl
          | 1, _ => rfl
          | 2, _ => rfl
          | 3, _ => rfl
          | 4, _ => rfl
          | 5, _ => rfl
          | n + 6, h => exact absurd h (by omega)
        · simp (disch := omega) only [c_ne]
          obtain ⟨q, rfl⟩ : ∃ q, k = q + 6 := ⟨k - 6, by omega⟩
          have e3 : f00 2 (q + 6) = 0 := by unfold f00; exact if_neg (by omega)
          have e4 : xm_dflt 1 (q + 6) = xm_dflt 1 5 := rfl
          have e2 : xhK 2 (q + 6) = 1 := by show (if q + 6 < 6 then 0 else 1) = 1; exact if_neg (by omega)
          rw [e4]; unfold xhF; rw [e2, e3]; rfl
      | 3, _ => simp (disch := decide) only [c_ne, c_une, c_ueq, c_eq]; rfl
      | 4, _ => simp (disch := decide) only [c_ne, c_une, c_ueq, c_eq]; rfl
      | 5, _ =>
        simp (disch := decide) only [c_ne, c_une, c_ueq, c_eq]
        funext k
        by_cases hk : k < 6
        · match k, hk with
          | 0, _ => rfl
          | 1, _ => rfl
          | 2, _ => rfl
          | 3, _ => rfl
          | 4, _ => rfl
          | 5, _ => rfl
          | n + 6, h => exact absurd h (by omega)
        · simp (disch := omega) only [c_ne]
          obtain ⟨q, rfl⟩ : ∃ q, k = q + 6 := ⟨k - 6, by omega⟩
          have e3 : f00 5 (q + 6) = 0 := by unfold f00; exact if_neg (by omega)
          have e4 : xm_dflt 1 (q + 6) = xm_dflt 1 5 := rfl
          have e2 : xhK 5 (q + 6) = 1 := by show (if q + 6 < 6 then 0 else 1) = 1; exact if_neg (by omega)
          rw [e4]; unfold xhF; rw [e2, e3]; rfl
      | 6, _ => simp (disch := decide) only [c_ne, c_une, c_ueq, c_eq]; rfl
      | 7, _ => simp (disch := decide) only [c_ne, c_une, c_ueq, c_eq]; rfl
      | 8, _ =>
        simp (disch := decide) only [c_ne, c_une, c_ueq, c_eq]
        funext k
        by_cases hk : k < 5
        · match k, hk with
          | 0, _ => rfl
          | 1, _ => rfl
          | 2, _ => rfl
          | 3, _ => rfl
          | 4, _ => rfl
          | n + 5, h => exact absurd h (by omega)
        · simp (disch := omega) only [c_ne]
          obtain ⟨q, rfl⟩ : ∃ q, k = q + 5 := ⟨k - 5, by omega⟩
          have e3 : f00 8 (q + 5) = 0 := by unfold f00; exact if_neg (by omega)
          have e4 : xm_dflt 2 (q + 5) = xm_dflt 2 4 := rfl
          have e2 : xhK 8 (q + 5) = 0 := rfl
          rw [e4]; unfold xhF; rw [e2, e3]; rfl
      | 9, _ => simp (disch := decide) only [c_ne, c_une, c_ueq, c_eq]; rfl
      | 10, _ =>
        simp (disch := decide) only [c_ne, c_une, c_ueq, c_eq]
        funext k
        by_cases hk : k < 5
        · match k, hk with
          | 0, _ => rfl
          | 1, _ => rfl
          | 2, _ => rfl
          | 3, _ => rfl
          | 4, _ => rfl
          | n + 5, h => exact absurd h (by omega)
        · simp (disch := omega) only [c_ne]
          obtain ⟨q, rfl⟩ : ∃ q, k = q + 5 := ⟨k - 5, by omega⟩
          have e3 : f00 10 (q + 5) = 0 := by unfold f00; exact if_neg (by omega)
          have e4 : xm_dflt 2 (q + 5) = xm_dflt 2 4 := rfl
          have e2 : xhK 10 (q + 5) = 0 := rfl
          rw [e4]; unfold xhF; rw [e2, e3]; rfl
      | 11, _ => simp (disch := decide) only [c_ne, c_une, c_ueq, c_eq]; rfl
      | 12, _ =>
        simp (disch := decide) only [c_ne, c_une, c_ueq, c_eq]
        funext k
        by_cases hk : k < 3
        · match k, hk with
          | 0, _ => rfl
          | 1, _ => rfl
          | 2, _ => rfl
          | n + 3, h => exact absurd h (by omega)
        · simp (disch := omega) only [c_ne]
          obtain ⟨q, rfl⟩ : ∃ q, k = q + 3 := ⟨k - 3, by omega⟩
          have e3 : f00 12 (q + 3) = 0 := by unfold f00; exact if_neg (by omega)
          have e4 : xm_dflt 3 (q + 3) = xm_dflt 3 2 := rfl
          have e2 : xhK 12 (q + 3) = 0 := rfl
          rw [e4]; unfold xhF; rw [e2, e3]; rfl
      | 13, _ => simp (disch := decide) only [c_ne, c_une, c_ueq, c_eq]; rfl
      | 14, _ =>
        simp (disch := decide) only [c_ne, c_une, c_ueq, c_eq]
        funext k
        by_cases hk : k < 7
        · match k, hk with
          | 0, _ => rfl
          | 1, _ => rfl
          | 2, _ => rfl
          | 3, _ => rfl
          | 4, _ => rfl
          | 5, _ => rfl
          | 6, _ => rfl
          | n + 7, h => exact absurd h (by omega)
        · simp (disch := omega) only [c_ne]
          obtain ⟨q, rfl⟩ : ∃ q, k = q + 7 := ⟨k - 7, by omega⟩
          have e3 : f00 14 (q + 7) = 0 := by unfold f00; exact if_neg (by omega)
          have e4 : xm_dflt 4 (q + 7) = xm_dflt 4 6 := rfl
          have e2 : xhK 14 (q + 7) = 0 := rfl
          rw [e4]; unfold xhF; rw [e2, e3]; rfl
      | 15, _ => simp (disch := decide) only [c_ne, c_une, c_ueq, c_eq]; rfl
      | 16, _ => simp (disch := decide) only [c_ne, c_une, c_ueq, c_eq]; rfl
      | 17, _ =>
        simp (disch := decide) only [c_ne, c_une, c_ueq, c_eq]
        funext k
        by_cases hk : k < 7
        · match k, hk with
          | 0, _ => rfl
          | 1, _ => rfl
          | 2, _ => rfl
          | 3, _ => rfl
          | 4, _ => rfl
          | 5, _ => rfl
          | 6, _ => rfl
          | n + 7, h => exact absurd h (by omega)
        · simp (disch := omega) only [c_ne]
          obtain ⟨q, rfl⟩ : ∃ q, k = q + 7 := ⟨k - 7, by omega⟩
          have e3 : f00 17 (q + 7) = 0 := by unfold f00; exact if_neg (by omega)
          have e4 : xm_dflt 5 (q + 7) = xm_dflt 5 6 := rfl
          have e2 : xhK 17 (q + 7) = 0 := rfl
          rw [e4]; unfold xhF; rw [e2, e3]; rfl
      | 18, _ => simp (disch := decide) only [c_ne, c_une, c_ueq, c_eq]; rfl
      | 19, _ =>
        simp (disch := decide) only [c_ne, c_une, c_ueq, c_eq]
        funext k
        by_cases hk : k < 4
        · match k, hk with
          | 0, _ => rfl
          | 1, _ => rfl
          | 2, _ => rfl
          | 3, _ => rfl
          | n + 4, h => exact absurd h (by omega)
        · simp (disch := omega) only [c_ne]
          obtain ⟨q, rfl⟩ : ∃ q, k = q + 4 := ⟨k - 4, by omega⟩
          have e3 : f00 19 (q + 4) = 0 := by unfold f00; exact if_neg (by omega)
          have e4 : xm_dflt 6 (q + 4) = xm_dflt 6 3 := rfl
          have e2 : xhK 19 (q + 4) = 1 := by show (if q + 4 < 4 then 0 else 1) = 1; exact if_neg (by omega)
          rw [e4]; unfold xhF; rw [e2, e3]; rfl
      | 20, _ =>
        simp (disch := decide) only [c_ne, c_une, c_ueq, c_eq]
        funext k
        by_cases hk : k < 12
        · match k, hk with
          | 0, _ => rfl
          | 1, _ => rfl
          | 2, _ => rfl
          | 3, _ => rfl
          | 4, _ => rfl
          | 5, _ => rfl
          | 6, _ => rfl
          | 7, _ => rfl
          | 8, _ => rfl
          | 9, _ => rfl
          | 10, _ => rfl
          | 11, _ => rfl
          | n + 12, h => exact absurd h (by omega)
        · simp (disch := omega) only [c_ne]
          obtain ⟨q, rfl⟩ : ∃ q, k = q + 12 := ⟨k - 12, by omega⟩
          have e3 : f00 20 (q + 12) = 0 := by unfold f00; exact if_neg (by omega)
          have e4 : xm_dflt 7 (q + 12) = xm_dflt 7 11 := rfl
          have e2 : xhK 20 (q + 12) = 0 := rfl
          rw [e4]; unfold xhF; rw [e2, e3]; rfl
      | 21, _ =>
        simp (disch := decide) only [c_ne, c_une, c_ueq, c_eq]
        funext k
        by_cases hk : k < 39
        · match k, hk with
          | 0, _ => rfl
          | 1, _ => rfl
          | 2, _ => rfl
          | 3, _ => rfl
          | 4, _ => rfl
          | 5, _ => rfl
          | 6, _ => rfl
          | 7, _ => rfl
          | 8, _ => rfl
          | 9, _ => rfl
          | 10, _ => rfl
          | 11, _ => rfl
          | 12, _ => rfl
          | 13, _ => rfl
          | 14, _ => rfl
          | 15, _ => rfl
          | 16, _ => rfl
          | 17, _ => rfl
          | 18, _ => rfl
          | 19, _ => rfl
          | 20, _ => rfl
          | 21, _ => rfl
          | 22, _ => rfl
          | 23, _ => rfl
          | 24, _ => rfl
          | 25, _ => rfl
          | 26, _ => rfl
          | 27, _ => rfl
          | 28, _ => rfl
          | 29, _ => rfl
          | 30, _ => rfl
          | 31, _ => rfl
          | 32, _ => rfl
          | 33, _ => rfl
          | 34, _ => rfl
          | 35, _ => rfl
          | 36, _ => rfl
          | 37, _ => rfl
          | 38, _ => rfl
          | n + 39, h => exact absurd h (by omega)
        · simp (disch := omega) only [c_ne]
          obtain ⟨q, rfl⟩ : ∃ q, k = q + 39 := ⟨k - 39, by omega⟩
          have e3 : f00 21 (q + 39) = 0 := by unfold f00; exact if_neg (by omega)
          have e4 : xm_dflt 8 (q + 39) = xm_dflt 8 38 := rfl
          have e2 : xhK 21 (q + 39) = 1 := by show (if q + 39 < 39 then 0 else 1) = 1; exact if_neg (by omega)
          rw [e4]; unfold xhF; rw [e2, e3]; rfl
      | 22, _ => simp (disch := decide) only [c_ne, c_une, c_ueq, c_eq]; rfl
      | 23, _ => simp (disch := decide) only [c_ne, c_une, c_ueq, c_eq]; rfl
      | 24, _ => simp (disch := decide) only [c_ne, c_une, c_ueq, c_eq]; rfl
      | 25, _ => simp (disch := decide) only [c_ne, c_une, c_ueq, c_eq]; rfl
      | 26, _ => simp (disch := decide) only [c_ne, c_une, c_ueq, c_eq]; rfl
      | 27, _ => simp (disch := decide) only [c_ne, c_une, c_ueq, c_eq]; rfl
      | 28, _ => simp (disch := decide) only [c_ne, c_une, c_ueq, c_eq]; rfl
      | 29, _ => simp (disch := decide) only [c_ne, c_une, c_ueq, c_eq]; rfl
      | 30, _ => simp (disch := decide) only [c_ne, c_une, c_ueq, c_eq]; rfl
      | 31, _ => simp (disch := decide) only [c_ne, c_une, c_ueq, c_eq]; rfl
      | 32, _ => simp (disch := decide) only [c_ne, c_une, c_ueq, c_eq]; rfl
      | 33, _ => simp (disch := decide) only [c_ne, c_une, c_ueq, c_eq]; rfl
      | 34, _ => simp (disch := decide) only [c_ne, c_une, c_ueq, c_eq]; rfl
      | n + 35, h => exact absurd h (by omega)
    · simp (disch := omega) only [c_ne, c_une]
      obtain ⟨q, rfl⟩ : ∃ q, i = q + 35 := ⟨i - 35, by omega⟩
      rfl
  · funext i j
    by_cases hi : i < 35
    · match i, hi with
      | 0, _ => simp (disch := decide) only [c_ne]; exact (xI_of _).symm
      | 1, _ => simp (disch := decide) only [c_ne, c_eq]; rfl
      | 2, _ => simp (disch := decide) only [c_ne, c_eq]; rfl
      | 3, _ => simp (disch := decide) only [c_ne, c_eq]; rfl
      | 4, _ => simp (disch := decide) only [c_ne, c_eq]; rfl
      | 5, _ => simp (disch := decide) only [c_ne, c_eq]; rfl
      | 6, _ => simp (disch := decide) only [c_ne, c_eq]; rfl
      | 7, _ => simp (disch := decide) only [c_ne, c_eq]; rfl
      | 8, _ => simp (disch := decide) only [c_ne, c_eq]; rfl
      | 9, _ => simp (disch := decide) only [c_ne, c_eq]; rfl
      | 10, _ => simp (disch := decide) only [c_ne, c_eq]; rfl
      | 11, _ => simp (disch := decide) only [c_ne, c_eq]; rfl
      | 12, _ => simp (disch := decide) only [c_ne, c_eq]; rfl
      | 13, _ => simp (disch := decide) only [c_ne, c_eq]; rfl
      | 14, _ => simp (disch := decide) only [c_ne, c_eq]; rfl
      | 15, _ => simp (disch := decide) only [c_ne, c_eq]; rfl
      | 16, _ => simp (disch := decide) only [c_ne, c_eq]; rfl
      | 17, _ => simp (disch := decide) only [c_ne, c_eq]; rfl
      | 18, _ => simp (disch := decide) only [c_ne, c_eq]; rfl
      | 19, _ => simp (disch := decide) only [c_ne, c_eq]; rfl
      | 20, _ => simp (disch := decide) only [c_ne, c_eq]; rfl
      | 21, _ => simp (disch := decide) only [c_ne, c_eq]; rfl
      | 22, _ => simp (disch := decide) only [c_ne, c_eq]; rfl
      | 23, _ => simp (disch := decide) only [c_ne, c_eq]; rfl
      | 24, _ => simp (disch := decide) only [c_ne, c_eq]; rfl
      | 25, _ => simp (disch := decide) only [c_ne, c_eq]; rfl
      | 26, _ => simp (disch := decide) only [c_ne, c_eq]; rfl
      | 27, _ => simp (disch := decide) only [c_ne, c_eq]; rfl
      | 28, _ => simp (disch := decide) only [c_ne, c_eq]; rfl
      | 29, _ => simp (disch := decide) only [c_ne, c_eq]; rfl
      | 30, _ => simp (disch := decide) only [c_ne, c_eq]; rfl
      | 31, _ => simp (disch := decide) only [c_ne, c_eq]; rfl
      | 32, _ => simp (disch := decide) only [c_ne, c_eq]; rfl
      | 33, _ => simp (disch := decide) only [c_ne, c_eq]; rfl
      | 34, _ => simp (disch := decide) only [c_ne, c_eq]; rfl
      | n + 35, h => exact absurd h (by omega)
    · simp (disch := omega) only [c_ne]
      unfold a00; rw [if_pos (by omega)]; exact (xI_of _).symm
