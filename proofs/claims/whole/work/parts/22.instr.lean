/-! THE HEAP once the constructors have run, and the rules of the instructions over it (by program: wip/whole/gen22.py) -/
def xhS (L : Nat) (i : Nat) : Nat × Nat := match i with
  | 1 => (0, 0)
  | 2 => (0, 1)
  | 3 => (1, 3)
  | 4 => (1, 324)
  | 5 => (0, 1)
  | 6 => (1, 3)
  | 7 => (1, 324)
  | 8 => (0, 2)
  | 9 => (1, 1200)
  | 10 => (0, 2)
  | 11 => (1, 1200)
  | 12 => (0, 3)
  | 13 => (1, 108)
  | 14 => (0, 4)
  | 15 => (1, 126)
  | 16 => (1, 126)
  | 17 => (0, 5)
  | 18 => (1, 2394)
  | 19 => (0, 6)
  | 20 => (0, 7)
  | 21 => (0, 8)
  | 22 => (1, 3)
  | 23 => (1, 324)
  | 24 => (1, 1200)
  | 25 => (1, 3)
  | 26 => (1, 324)
  | 27 => (1, 108)
  | 28 => (1, 126)
  | 29 => (1, 126)
  | 30 => (1, 2394)
  | 31 => (1, 1400)
  | 32 => (1, 1300)
  | 33 => (1, 3)
  | 34 => (2, 1)
  | _ => (1, L)
/-- a field: 0 an int, 1 null, j + 2 the cell j -/
def xhK (i k : Nat) : Nat := match i with
  | 1 => (match k with | 0 => 4 | 1 => 7 | 2 => 10 | 3 => 12 | 4 => 21 | 5 => 22 | _ => if k < 6 then 0 else 1)
  | 2 => (match k with | 4 => 5 | 5 => 6 | _ => if k < 6 then 0 else 1)
  | 5 => (match k with | 4 => 8 | 5 => 9 | _ => if k < 6 then 0 else 1)
  | 8 => (match k with | 2 => 11 | _ => 0)
  | 10 => (match k with | 2 => 13 | _ => 0)
  | 12 => (match k with | 0 => 15 | _ => 0)
  | 14 => (match k with | 0 => 10 | 1 => 12 | 3 => 17 | 4 => 18 | _ => 0)
  | 17 => (match k with | 0 => 10 | 1 => 12 | 3 => 20 | _ => 0)
  | 19 => (match k with | 0 => 12 | 1 => 14 | 2 => 16 | 3 => 19 | _ => if k < 4 then 0 else 1)
  | 20 => (match k with | 0 => 10 | 1 => 12 | 2 => 7 | 3 => 14 | 4 => 16 | 5 => 19 | _ => 0)
  | 21 => (match k with | 5 => 24 | 6 => 25 | 8 => 26 | 13 => 27 | 14 => 28 | 19 => 29 | 22 => 30 | 23 => 31 | 24 => 32 | 28 => 33 | 36 => 34 | 38 => 35 | _ => if k < 39 then 0 else 1)
  | _ => 1
def xhV (n : Nat) (z : Int) : Value := match n with
  | 0 => .int (xI z)
  | 1 => .null
  | j + 2 => .ref j
def xhF (f : Nat → Nat → Int) (i k : Nat) : Value := xhV (xhK i k) (f i k)
abbrev xG : Type := Nat × (Nat → Nat → Int64) × Nat × Nat
/-- the heap: the fields, the ints, and the rest (the script's length, the longs, how many cells and slots have been made) -/
def hh (f : Nat → Nat → Int) (a : Nat → Int → Int) (g : xG) : xm_H := (35, xhS g.1, xhF f, fun i j => xI (a i (j : Int)), g.2.1, g.2.2.1, g.2.2.2)
def xu (f : Nat → Nat → Int) (i k : Nat) (v : Int) : Nat → Nat → Int := fun i' k' => if i' = i ∧ k' = k then v else f i' k'
def xw (a : Nat → Int → Int) (i : Nat) (j v : Int) : Nat → Int → Int := fun i' j' => if i' = i ∧ j' = j then v else a i' j'
def xcp (a : Nat → Int → Int) (o1 : Nat) (s : Int) (o2 : Nat) (t n : Int) : Nat → Int → Int := fun i j => if i = o2 ∧ t ≤ j ∧ j < t + n then a o1 (s + (j - t)) else a i j
theorem xhF_xu {f : Nat → Nat → Int} {o k : Nat} {v : Int} (hk : xhK o k = 0) : xm_up (xhF f) o k (.int (xI v)) = xhF (xu f o k v) := by
  funext i j
  unfold xm_up va_up xhF xu
  by_cases h1 : i = o
  · subst h1
    by_cases h2 : j = k
    · subst h2; simp [hk, xhV]
    · simp [h2]
  · simp [h1]
theorem hh_setF {f : Nat → Nat → Int} {a : Nat → Int → Int} {g : xG} {o k : Nat} {v : Int} (hk : xhK o k = 0) : xm_setF (hh f a g) o k (.int (xI v)) = hh (xu f o k v) a g := by
  show (_, _, xm_up (xhF f) o k (.int (xI v)), _) = _
  rw [xhF_xu hk]; rfl
theorem hh_setA {f : Nat → Nat → Int} {a : Nat → Int → Int} {g : xG} {o : Nat} {j v : Int} (j0 : 0 ≤ j) : xm_setA (hh f a g) o (va_up (xm_A (hh f a g) o) j.toNat (xI v)) = hh f (xw a o j v) g := by
  have : va_up (fun i (j : Nat) => xI (a i (j : Int))) o (va_up (fun j : Nat => xI (a o (j : Int))) j.toNat (xI v)) = fun i (j' : Nat) => xI (xw a o j v i (j' : Int)) := by
    funext i j'
    unfold va_up xw
    by_cases h1 : i = o
    · subst h1
      by_cases h2 : j' = j.toNat
      · have h3 : (j' : Int) = j := by omega
        simp only [h2, true_and, if_true, Int.toNat_of_nonneg j0]
      · have h3 : ¬ (j' : Int) = j := by omega
        simp [h2, h3]
    · simp [h1]
  show (_, _, _, va_up (fun i (j : Nat) => xI (a i (j : Int))) o (va_up (fun j : Nat => xI (a o (j : Int))) j.toNat (xI v)), _) = _
  rw [this]; rfl
theorem hh_cpy {f : Nat → Nat → Int} {a : Nat → Int → Int} {g : xG} {o1 o2 : Nat} {s t n : Int} (s0 : 0 ≤ s) (t0 : 0 ≤ t) (n0 : 0 ≤ n) : xm_setA (hh f a g) o2 (va_cpy (xm_A (hh f a g) o1) (xm_A (hh f a g) o2) s.toNat t.toNat n.toNat) = hh f (xcp a o1 s o2 t n) g := by
  have : va_up (fun i (j : Nat) => xI (a i (j : Int))) o2 (va_cpy (fun j : Nat => xI (a o1 (j : Int))) (fun j : Nat => xI (a o2 (j : Int))) s.toNat t.toNat n.toNat) = fun i (j' : Nat) => xI (xcp a o1 s o2 t n i (j' : Int)) := by
    funext i j
    unfold va_up va_cpy xcp
    by_cases h1 : i = o2
    · subst h1
      by_cases h2 : t.toNat ≤ j ∧ j < t.toNat + n.toNat
      · have h3 : t ≤ (j : Int) ∧ (j : Int) < t + n := by omega
        have h4 : ((s.toNat + (j - t.toNat) : Nat) : Int) = s + ((j : Int) - t) := by omega
        simp [h2, h3, h4]
      · have h3 : ¬ (t ≤ (j : Int) ∧ (j : Int) < t + n) := by omega
        simp only [h2, h3, if_true, if_false, and_false]
    · simp [h1]
  show (_, _, _, va_up (fun i (j : Nat) => xI (a i (j : Int))) o2 _, _) = _
  exact congrArg (fun z => (35, xhS g.1, xhF f, z, g.2.1, g.2.2.1, g.2.2.2)) this
theorem xu_app (f : Nat → Nat → Int) (i k : Nat) (v : Int) (i' k' : Nat) : xu f i k v i' k' = if i' = i ∧ k' = k then v else f i' k' := rfl
theorem xw_app (a : Nat → Int → Int) (i : Nat) (j v : Int) (i' : Nat) (j' : Int) : xw a i j v i' j' = if i' = i ∧ j' = j then v else a i' j' := rfl
theorem xcp_app (a : Nat → Int → Int) (o1 : Nat) (s : Int) (o2 : Nat) (t n : Int) (i : Nat) (j : Int) : xcp a o1 s o2 t n i j = if i = o2 ∧ t ≤ j ∧ j < t + n then a o1 (s + (j - t)) else a i j := rfl
/-- between these bounds a number is an int -/
def xin (z : Int) : Prop := -2147483648 ≤ z ∧ z ≤ 2147483647
section XRULES
variable {d mi pc pc' : Nat} {ls st : List Value} {h : xm_H} {Q : xm_H × Outcome → Prop} {f : Nat → Nat → Int} {a : Nat → Int → Int} {g : xG} {x y z : Int} {o k : Nat}
theorem xT_iconst {n : Int} (hq : xq mi pc (.iconst n) = true) (hp : pc' = pc + 1) : xT d mi pc ls st h Q ↔ xT d mi pc' ls (.int (xI n) :: st) h Q := by
  subst hp; exact xT_go hq fun go ca => rfl
theorem xT_bipush {n : Int} (hq : xq mi pc (.bipush n) = true) (hp : pc' = pc + 2) (hn : (Int8.ofInt n).toInt32 = xI n) : xT d mi pc ls st h Q ↔ xT d mi pc' ls (.int (xI n) :: st) h Q := by
  subst hp; rw [← hn]; exact xT_go hq fun go ca => rfl
theorem xT_sipush {n : Int} (hq : xq mi pc (.sipush n) = true) (hp : pc' = pc + 3) (hn : (Int16.ofInt n).toInt32 = xI n) : xT d mi pc ls st h Q ↔ xT d mi pc' ls (.int (xI n) :: st) h Q := by
  subst hp; rw [← hn]; exact xT_go hq fun go ca => rfl
theorem xT_ldc {n : Int} (hq : xq mi pc (.ldc k) = true) (hp : pc' = pc + 2) (hn : (xm_find xt_I (xm_oc mi) k 0).map (·.1) = some (xI n)) : xT d mi pc ls st h Q ↔ xT d mi pc' ls (.int (xI n) :: st) h Q := by
  subst hp
  obtain ⟨q, h1, h2⟩ := Option.map_eq_some_iff.mp hn
  refine xT_go hq fun go ca => ?_
  simp only [xm_step, h1, ← h2]
theorem xT_ldcw {n : Int} (hq : xq mi pc (.ldc_w k) = true) (hp : pc' = pc + 3) (hn : (xm_find xt_I (xm_oc mi) k 0).map (·.1) = some (xI n)) : xT d mi pc ls st h Q ↔ xT d mi pc' ls (.int (xI n) :: st) h Q := by
  subst hp
  obtain ⟨q, h1, h2⟩ := Option.map_eq_some_iff.mp hn
  refine xT_go hq fun go ca => ?_
  simp only [xm_step, h1, ← h2]
theorem xT_ldc2 {v : Int64} (hq : xq mi pc (.ldc2_w k) = true) (hp : pc' = pc + 3) (hn : (xm_find xt_J (xm_oc mi) k 0).map (·.1) = some v) : xT d mi pc ls st h Q ↔ xT d mi pc' ls (.long v :: st) h Q := by
  subst hp
  obtain ⟨q, h1, h2⟩ := Option.map_eq_some_iff.mp hn
  refine xT_go hq fun go ca => ?_
  simp only [xm_step, h1, ← h2]
theorem xT_iload {v : Int32} (hq : xq mi pc (.iload k) = true) (hp : pc' = pc + 2) (hv : xm_get ls k = .int v) : xT d mi pc ls st h Q ↔ xT d mi pc' ls (.int v :: st) h Q := by
  subst hp; refine xT_go hq fun go ca => ?_
  simp only [xm_step, xm_ld, hv, xm_isI, if_true]
theorem xT_iload_n {v : Int32} {k : Fin 4} (hq : xq mi pc (.iload_n k) = true) (hp : pc' = pc + 1) (hv : xm_get ls k.val = .int v) : xT d mi pc ls st h Q ↔ xT d mi pc' ls (.int v :: st) h Q := by
  subst hp; refine xT_go hq fun go ca => ?_
  simp only [xm_step, xm_ld, hv, xm_isI, if_true]
theorem xT_lload {v : Int64} (hq : xq mi pc (.lload k) = true) (hp : pc' = pc + 2) (hv : xm_get ls k = .long v) : xT d mi pc ls st h Q ↔ xT d mi pc' ls (.long v :: st) h Q := by
  subst hp; refine xT_go hq fun go ca => ?_
  simp only [xm_step, xm_ld, hv, xm_isL, if_true]
theorem xT_lload_n {v : Int64} {k : Fin 4} (hq : xq mi pc (.lload_n k) = true) (hp : pc' = pc + 1) (hv : xm_get ls k.val = .long v) : xT d mi pc ls st h Q ↔ xT d mi pc' ls (.long v :: st) h Q := by
  subst hp; refine xT_go hq fun go ca => ?_
  simp only [xm_step, xm_ld, hv, xm_isL, if_true]
theorem xT_aload {v : Nat} (hq : xq mi pc (.aload k) = true) (hp : pc' = pc + 2) (hv : xm_get ls k = .ref v) : xT d mi pc ls st h Q ↔ xT d mi pc' ls (.ref v :: st) h Q := by
  subst hp; refine xT_go hq fun go ca => ?_
  simp only [xm_step, xm_ld, hv, xm_isR, if_true]
theorem xT_aload_n {v : Nat} {k : Fin 4} (hq : xq mi pc (.aload_n k) = true) (hp : pc' = pc + 1) (hv : xm_get ls k.val = .ref v) : xT d mi pc ls st h Q ↔ xT d mi pc' ls (.ref v :: st) h Q := by
  subst hp; refine xT_go hq fun go ca => ?_
  simp only [xm_step, xm_ld, hv, xm_isR, if_true]
theorem xT_istore {v : Int32} {ls' : List Value} (hq : xq mi pc (.istore k) = true) (hp : pc' = pc + 2) (hk : k < ls.length) (hv : xm_put1 ls k (.int v) = ls') : xT d mi pc ls (.int v :: st) h Q ↔ xT d mi pc' ls' st h Q := by
  subst hp; subst hv; refine xT_go hq fun go ca => ?_
  simp only [xm_step, xm_st1, xm_isI, hk, and_self, if_true]
theorem xT_istore_n {v : Int32} {k : Fin 4} {ls' : List Value} (hq : xq mi pc (.istore_n k) = true) (hp : pc' = pc + 1) (hk : k.val < ls.length) (hv : xm_put1 ls k.val (.int v) = ls') : xT d mi pc ls (.int v :: st) h Q ↔ xT d mi pc' ls' st h Q := by
  subst hp; subst hv; refine xT_go hq fun go ca => ?_
  simp only [xm_step, xm_st1, xm_isI, hk, and_self, if_true]
theorem xT_astore {v : Nat} {ls' : List Value} (hq : xq mi pc (.astore k) = true) (hp : pc' = pc + 2) (hk : k < ls.length) (hv : xm_put1 ls k (.ref v) = ls') : xT d mi pc ls (.ref v :: st) h Q ↔ xT d mi pc' ls' st h Q := by
  subst hp; subst hv; refine xT_go hq fun go ca => ?_
  simp only [xm_step, xm_st1, xm_isR, hk, and_self, if_true]
theorem xT_astore_n {v : Nat} {k : Fin 4} {ls' : List Value} (hq : xq mi pc (.astore_n k) = true) (hp : pc' = pc + 1) (hk : k.val < ls.length) (hv : xm_put1 ls k.val (.ref v) = ls') : xT d mi pc ls (.ref v :: st) h Q ↔ xT d mi pc' ls' st h Q := by
  subst hp; subst hv; refine xT_go hq fun go ca => ?_
  simp only [xm_step, xm_st1, xm_isR, hk, and_self, if_true]
theorem xT_iinc {n : Int} {ls' : List Value} (hq : xq mi pc (.iinc k n) = true) (hp : pc' = pc + 3) (hv : xm_get ls k = .int (xI x)) (hs : xm_put1 ls k (.int (xI (x + n))) = ls') : xT d mi pc ls st h Q ↔ xT d mi pc' ls' st h Q := by
  subst hp; subst hs; refine xT_go hq fun go ca => ?_
  rw [← xI_add]; simp only [xm_step, hv]; rfl
theorem xT_iadd (hq : xq mi pc .iadd = true) (hp : pc' = pc + 1) : xT d mi pc ls (.int (xI y) :: .int (xI x) :: st) h Q ↔ xT d mi pc' ls (.int (xI (x + y)) :: st) h Q := by
  subst hp; rw [← xI_add]; exact xT_go hq fun go ca => rfl
theorem xT_isub (hq : xq mi pc .isub = true) (hp : pc' = pc + 1) : xT d mi pc ls (.int (xI y) :: .int (xI x) :: st) h Q ↔ xT d mi pc' ls (.int (xI (x - y)) :: st) h Q := by
  subst hp; rw [← xI_sub]; exact xT_go hq fun go ca => rfl
theorem xT_imul (hq : xq mi pc .imul = true) (hp : pc' = pc + 1) : xT d mi pc ls (.int (xI y) :: .int (xI x) :: st) h Q ↔ xT d mi pc' ls (.int (xI (x * y)) :: st) h Q := by
  subst hp; rw [← xI_mul]; exact xT_go hq fun go ca => rfl
theorem xT_iand (hq : xq mi pc .iand = true) (hp : pc' = pc + 1) : xT d mi pc ls (.int (xI y) :: .int (xI x) :: st) h Q ↔ xT d mi pc' ls (.int (xI (xA x y)) :: st) h Q := by
  subst hp; rw [← xI_and]; exact xT_go hq fun go ca => rfl
theorem xT_ior (hq : xq mi pc .ior = true) (hp : pc' = pc + 1) : xT d mi pc ls (.int (xI y) :: .int (xI x) :: st) h Q ↔ xT d mi pc' ls (.int (xI (xO x y)) :: st) h Q := by
  subst hp; rw [← xI_or]; exact xT_go hq fun go ca => rfl
theorem xT_ixor (hq : xq mi pc .ixor = true) (hp : pc' = pc + 1) : xT d mi pc ls (.int (xI y) :: .int (xI x) :: st) h Q ↔ xT d mi pc' ls (.int (xI (xX x y)) :: st) h Q := by
  subst hp; rw [← xI_xor]; exact xT_go hq fun go ca => rfl
theorem xT_ishl (hq : xq mi pc .ishl = true) (hp : pc' = pc + 1) (y0 : 0 ≤ y) (y1 : y ≤ 31) : xT d mi pc ls (.int (xI y) :: .int (xI x) :: st) h Q ↔ xT d mi pc' ls (.int (xI (x * 2 ^ y.toNat)) :: st) h Q := by
  subst hp; rw [← xI_shl y0 y1]; exact xT_go hq fun go ca => rfl
theorem xT_ishr (hq : xq mi pc .ishr = true) (hp : pc' = pc + 1) (y0 : 0 ≤ y) (y1 : y ≤ 31) (x0 : -2147483648 ≤ x) (x1 : x ≤ 2147483647) : xT d mi pc ls (.int (xI y) :: .int (xI x) :: st) h Q ↔ xT d mi pc' ls (.int (xI (x / 2 ^ y.toNat)) :: st) h Q := by
  subst hp; rw [← xI_shr x0 x1 y0 y1]; exact xT_go hq fun go ca => rfl
theorem xI_ne0 (y0 : 0 < y) (y1 : y ≤ 2147483647) : ¬ xI y = 0 := fun h => by
  have := (xI_eq (b := 0) (by omega) y1 (by omega) (by omega)).mp h
  omega
theorem xT_idiv (hq : xq mi pc .idiv = true) (hp : pc' = pc + 1) (x0 : 0 ≤ x) (x1 : x ≤ 2147483647) (y0 : 0 < y) (y1 : y ≤ 2147483647) : xT d mi pc ls (.int (xI y) :: .int (xI x) :: st) h Q ↔ xT d mi pc' ls (.int (xI (x / y)) :: st) h Q := by
  subst hp; rw [← xI_div x0 x1 (by omega) y1]; exact xT_go hq fun go ca => if_neg (xI_ne0 y0 y1)
theorem xT_irem (hq : xq mi pc .irem = true) (hp : pc' = pc + 1) (x0 : 0 ≤ x) (x1 : x ≤ 2147483647) (y0 : 0 < y) (y1 : y ≤ 2147483647) : xT d mi pc ls (.int (xI y) :: .int (xI x) :: st) h Q ↔ xT d mi pc' ls (.int (xI (x % y)) :: st) h Q := by
  subst hp; rw [← xI_rem x0 x1 (by omega) y1]; exact xT_go hq fun go ca => if_neg (xI_ne0 y0 y1)
theorem xT_tdiv (hq : xq mi pc .idiv = true) (hp : pc' = pc + 1) (x0 : -2147483648 < x) (x1 : x ≤ 2147483647) (y0 : 0 < y) (y1 : y ≤ 2147483647) : xT d mi pc ls (.int (xI y) :: .int (xI x) :: st) h Q ↔ xT d mi pc' ls (.int (xI (x.tdiv y)) :: st) h Q := by
  subst hp; rw [← xI_tdiv x0 x1 (by omega) y1]; exact xT_go hq fun go ca => if_neg (xI_ne0 y0 y1)
theorem xT_tmod (hq : xq mi pc .irem = true) (hp : pc' = pc + 1) (x0 : -2147483648 < x) (x1 : x ≤ 2147483647) (y0 : 0 < y) (y1 : y ≤ 2147483647) : xT d mi pc ls (.int (xI y) :: .int (xI x) :: st) h Q ↔ xT d mi pc' ls (.int (xI (x.tmod y)) :: st) h Q := by
  subst hp; rw [← xI_tmod x0 x1 (by omega) y1]; exact xT_go hq fun go ca => if_neg (xI_ne0 y0 y1)
theorem xT_ineg (hq : xq mi pc .ineg = true) (hp : pc' = pc + 1) : xT d mi pc ls (.int (xI x) :: st) h Q ↔ xT d mi pc' ls (.int (xI (-x)) :: st) h Q := by
  subst hp; rw [← xI_neg]; exact xT_go hq fun go ca => rfl
theorem xT_i2l {v : Int32} (hq : xq mi pc .i2l = true) (hp : pc' = pc + 1) : xT d mi pc ls (.int v :: st) h Q ↔ xT d mi pc' ls (.long v.toInt64 :: st) h Q := by
  subst hp; exact xT_go hq fun go ca => rfl
theorem xT_l2i {v : Int64} (hq : xq mi pc .l2i = true) (hp : pc' = pc + 1) : xT d mi pc ls (.long v :: st) h Q ↔ xT d mi pc' ls (.int v.toInt32 :: st) h Q := by
  subst hp; exact xT_go hq fun go ca => rfl
theorem xT_land {v w : Int64} (hq : xq mi pc .land = true) (hp : pc' = pc + 1) : xT d mi pc ls (.long w :: .long v :: st) h Q ↔ xT d mi pc' ls (.long (v &&& w) :: st) h Q := by
  subst hp; exact xT_go hq fun go ca => rfl
theorem xT_lor {v w : Int64} (hq : xq mi pc .lor = true) (hp : pc' = pc + 1) : xT d mi pc ls (.long w :: .long v :: st) h Q ↔ xT d mi pc' ls (.long (v ||| w) :: st) h Q := by
  subst hp; exact xT_go hq fun go ca => rfl
theorem xT_lshl {v : Int64} {w : Int32} (hq : xq mi pc .lshl = true) (hp : pc' = pc + 1) : xT d mi pc ls (.int w :: .long v :: st) h Q ↔ xT d mi pc' ls (.long (v <<< (w.toInt64 &&& 63)) :: st) h Q := by
  subst hp; exact xT_go hq fun go ca => rfl
theorem xT_lshr {v : Int64} {w : Int32} (hq : xq mi pc .lshr = true) (hp : pc' = pc + 1) : xT d mi pc ls (.int w :: .long v :: st) h Q ↔ xT d mi pc' ls (.long (v >>> (w.toInt64 &&& 63)) :: st) h Q := by
  subst hp; exact xT_go hq fun go ca => rfl
theorem xT_lcmp {v w : Int64} (hq : xq mi pc .lcmp = true) (hp : pc' = pc + 1) : xT d mi pc ls (.long w :: .long v :: st) h Q ↔ xT d mi pc' ls (.int (lg_cmp v w) :: st) h Q := by
  subst hp; exact xT_go hq fun go ca => rfl
theorem xT_dup {v : Value} (hq : xq mi pc .dup = true) (hp : pc' = pc + 1) (hc : v.category = 1) : xT d mi pc ls (v :: st) h Q ↔ xT d mi pc' ls (v :: v :: st) h Q := by
  subst hp; exact xT_go hq fun go ca => if_pos hc
theorem xT_pop {v : Value} (hq : xq mi pc .pop = true) (hp : pc' = pc + 1) (hc : v.category = 1) : xT d mi pc ls (v :: st) h Q ↔ xT d mi pc' ls st h Q := by
  subst hp; exact xT_go hq fun go ca => if_pos hc
theorem xT_dup_x1 {v w : Value} (hq : xq mi pc .dup_x1 = true) (hp : pc' = pc + 1) (hc : v.category = 1) (hd : w.category = 1) : xT d mi pc ls (v :: w :: st) h Q ↔ xT d mi pc' ls (v :: w :: v :: st) h Q := by
  subst hp; exact xT_go hq fun go ca => if_pos ⟨hc, hd⟩
theorem xT_dup2 {v w : Value} (hq : xq mi pc .dup2 = true) (hp : pc' = pc + 1) (hc : v.category = 1) (hd : w.category = 1) : xT d mi pc ls (v :: w :: st) h Q ↔ xT d mi pc' ls (v :: w :: v :: w :: st) h Q := by
  subst hp; exact xT_go hq fun go ca => if_pos ⟨hc, hd⟩
theorem xm_jump_ok {off : Int} {t : Nat} (ht : (pc : Int) + off = t) (k : Nat → xm_R) : xm_jump pc off k = k t := by
  unfold xm_jump
  rw [if_pos (by omega), ht]; rfl
theorem xT_goto {off : Int} (hq : xq mi pc (.goto off) = true) (ht : (pc : Int) + off = (pc' : Nat)) : xT d mi pc ls st h Q ↔ xT d mi pc' ls st h Q :=
  xT_go hq fun go ca => by simp only [xm_step, xm_jump_ok ht]
theorem xT_two {c : Prop} {t p : Nat} {st0 : List Value} {i : Instr} (hq : xq mi pc i = true) (h1 : c → ∀ go ca, xm_step mi go ca d pc ls st0 h i = go t ls st h) (h2 : ¬ c → ∀ go ca, xm_step mi go ca d pc ls st0 h i = go p ls st h) : xT d mi pc ls st0 h Q ↔ (c → xT d mi t ls st h Q) ∧ (¬ c → xT d mi p ls st h Q) := by
  by_cases hc : c
  · rw [xT_go hq (h1 hc)]; simp [hc]
  · rw [xT_go hq (h2 hc)]; simp [hc]
theorem xT_ifeq {off : Int} {t p : Nat} (hq : xq mi pc (.ifCond .eq off) = true) (ht : (pc : Int) + off = (t : Nat)) (hp : p = pc + 3) (x0 : -2147483648 ≤ x) (x1 : x ≤ 2147483647) : xT d mi pc ls (.int (xI x) :: st) h Q ↔ (x = 0 → xT d mi t ls st h Q) ∧ (¬ x = 0 → xT d mi p ls st h Q) := by
  subst hp
  have hb := xI_eq (a := x) (b := 0) x0 x1 (by omega) (by omega)
  refine xT_two hq (fun hc go ca => ?_) (fun hc go ca => ?_)
  · have hx : xm_cond .eq (xI x) 0 = true := by
      have h3 := hb.mpr hc
      exact decide_eq_true h3
    simp only [xm_step, xm_1i, xm_2i, xm_jump_ok ht, hx, if_true, Bool.false_eq_true, if_false]
  · have hx : xm_cond .eq (xI x) 0 = false := by
      have h3 := mt hb.mp hc
      exact decide_eq_false h3
    simp only [xm_step, xm_1i, xm_2i, xm_jump_ok ht, hx, if_true, Bool.false_eq_true, if_false]
theorem xT_iceq {off : Int} {t p : Nat} (hq : xq mi pc (.if_icmp .eq off) = true) (ht : (pc : Int) + off = (t : Nat)) (hp : p = pc + 3) (x0 : -2147483648 ≤ x) (x1 : x ≤ 2147483647) (y0 : -2147483648 ≤ y) (y1 : y ≤ 2147483647) : xT d mi pc ls (.int (xI y) :: .int (xI x) :: st) h Q ↔ (x = y → xT d mi t ls st h Q) ∧ (¬ x = y → xT d mi p ls st h Q) := by
  subst hp
  have hb := xI_eq (a := x) (b := y) x0 x1 y0 y1
  refine xT_two hq (fun hc go ca => ?_) (fun hc go ca => ?_)
  · have hx : xm_cond .eq (xI x) (xI y) = true := by
      have h3 := hb.mpr hc
      exact decide_eq_true h3
    simp only [xm_step, xm_1i, xm_2i, xm_jump_ok ht, hx, if_true, Bool.false_eq_true, if_false]
  · have hx : xm_cond .eq (xI x) (xI y) = false := by
      have h3 := mt hb.mp hc
      exact decide_eq_false h3
    simp only [xm_step, xm_1i, xm_2i, xm_jump_ok ht, hx, if_true, Bool.false_eq_true, if_false]
theorem xT_ifne {off : Int} {t p : Nat} (hq : xq mi pc (.ifCond .ne off) = true) (ht : (pc : Int) + off = (t : Nat)) (hp : p = pc + 3) (x0 : -2147483648 ≤ x) (x1 : x ≤ 2147483647) : xT d mi pc ls (.int (xI x) :: st) h Q ↔ (x = 0 → xT d mi p ls st h Q) ∧ (¬ x = 0 → xT d mi t ls st h Q) := by
  subst hp
  have hb := xI_eq (a := x) (b := 0) x0 x1 (by omega) (by omega)
  refine xT_two hq (fun hc go ca => ?_) (fun hc go ca => ?_)
  · have hx : xm_cond .ne (xI x) 0 = false := by
      have h3 := hb.mpr hc
      exact decide_eq_false (fun z => z h3)
    simp only [xm_step, xm_1i, xm_2i, xm_jump_ok ht, hx, if_true, Bool.false_eq_true, if_false]
  · have hx : xm_cond .ne (xI x) 0 = true := by
      have h3 := mt hb.mp hc
      exact decide_eq_true h3
    simp only [xm_step, xm_1i, xm_2i, xm_jump_ok ht, hx, if_true, Bool.false_eq_true, if_false]
theorem xT_icne {off : Int} {t p : Nat} (hq : xq mi pc (.if_icmp .ne off) = true) (ht : (pc : Int) + off = (t : Nat)) (hp : p = pc + 3) (x0 : -2147483648 ≤ x) (x1 : x ≤ 2147483647) (y0 : -2147483648 ≤ y) (y1 : y ≤ 2147483647) : xT d mi pc ls (.int (xI y) :: .int (xI x) :: st) h Q ↔ (x = y → xT d mi p ls st h Q) ∧ (¬ x = y → xT d mi t ls st h Q) := by
  subst hp
  have hb := xI_eq (a := x) (b := y) x0 x1 y0 y1
  refine xT_two hq (fun hc go ca => ?_) (fun hc go ca => ?_)
  · have hx : xm_cond .ne (xI x) (xI y) = false := by
      have h3 := hb.mpr hc
      exact decide_eq_false (fun z => z h3)
    simp only [xm_step, xm_1i, xm_2i, xm_jump_ok ht, hx, if_true, Bool.false_eq_true, if_false]
  · have hx : xm_cond .ne (xI x) (xI y) = true := by
      have h3 := mt hb.mp hc
      exact decide_eq_true h3
    simp only [xm_step, xm_1i, xm_2i, xm_jump_ok ht, hx, if_true, Bool.false_eq_true, if_false]
theorem xT_iflt {off : Int} {t p : Nat} (hq : xq mi pc (.ifCond .lt off) = true) (ht : (pc : Int) + off = (t : Nat)) (hp : p = pc + 3) (x0 : -2147483648 ≤ x) (x1 : x ≤ 2147483647) : xT d mi pc ls (.int (xI x) :: st) h Q ↔ (x < 0 → xT d mi t ls st h Q) ∧ (¬ x < 0 → xT d mi p ls st h Q) := by
  subst hp
  have hb := xI_lt (a := x) (b := 0) x0 x1 (by omega) (by omega)
  refine xT_two hq (fun hc go ca => ?_) (fun hc go ca => ?_)
  · have hx : xm_cond .lt (xI x) 0 = true := by
      have h3 := hb.mpr hc
      exact decide_eq_true h3
    simp only [xm_step, xm_1i, xm_2i, xm_jump_ok ht, hx, if_true, Bool.false_eq_true, if_false]
  · have hx : xm_cond .lt (xI x) 0 = false := by
      have h3 := mt hb.mp hc
      exact decide_eq_false h3
    simp only [xm_step, xm_1i, xm_2i, xm_jump_ok ht, hx, if_true, Bool.false_eq_true, if_false]
theorem xT_iclt {off : Int} {t p : Nat} (hq : xq mi pc (.if_icmp .lt off) = true) (ht : (pc : Int) + off = (t : Nat)) (hp : p = pc + 3) (x0 : -2147483648 ≤ x) (x1 : x ≤ 2147483647) (y0 : -2147483648 ≤ y) (y1 : y ≤ 2147483647) : xT d mi pc ls (.int (xI y) :: .int (xI x) :: st) h Q ↔ (x < y → xT d mi t ls st h Q) ∧ (¬ x < y → xT d mi p ls st h Q) := by
  subst hp
  have hb := xI_lt (a := x) (b := y) x0 x1 y0 y1
  refine xT_two hq (fun hc go ca => ?_) (fun hc go ca => ?_)
  · have hx : xm_cond .lt (xI x) (xI y) = true := by
      have h3 := hb.mpr hc
      exact decide_eq_true h3
    simp only [xm_step, xm_1i, xm_2i, xm_jump_ok ht, hx, if_true, Bool.false_eq_true, if_false]
  · have hx : xm_cond .lt (xI x) (xI y) = false := by
      have h3 := mt hb.mp hc
      exact decide_eq_false h3
    simp only [xm_step, xm_1i, xm_2i, xm_jump_ok ht, hx, if_true, Bool.false_eq_true, if_false]
theorem xT_ifge {off : Int} {t p : Nat} (hq : xq mi pc (.ifCond .ge off) = true) (ht : (pc : Int) + off = (t : Nat)) (hp : p = pc + 3) (x0 : -2147483648 ≤ x) (x1 : x ≤ 2147483647) : xT d mi pc ls (.int (xI x) :: st) h Q ↔ (x < 0 → xT d mi p ls st h Q) ∧ (¬ x < 0 → xT d mi t ls st h Q) := by
  subst hp
  have hb := xI_lt (a := x) (b := 0) x0 x1 (by omega) (by omega)
  refine xT_two hq (fun hc go ca => ?_) (fun hc go ca => ?_)
  · have hx : xm_cond .ge (xI x) 0 = false := by
      have h3 := hb.mpr hc
      exact decide_eq_false (fun z => by rw [Int32.le_iff_toInt_le] at z; rw [Int32.lt_iff_toInt_lt] at h3; exact absurd h3 (Int.not_lt.mpr z))
    simp only [xm_step, xm_1i, xm_2i, xm_jump_ok ht, hx, if_true, Bool.false_eq_true, if_false]
  · have hx : xm_cond .ge (xI x) 0 = true := by
      have h3 := mt hb.mp hc
      refine decide_eq_true ?_; rw [Int32.lt_iff_toInt_lt] at h3; rw [Int32.le_iff_toInt_le]; exact Int.not_lt.mp h3
    simp only [xm_step, xm_1i, xm_2i, xm_jump_ok ht, hx, if_true, Bool.false_eq_true, if_false]
theorem xT_icge {off : Int} {t p : Nat} (hq : xq mi pc (.if_icmp .ge off) = true) (ht : (pc : Int) + off = (t : Nat)) (hp : p = pc + 3) (x0 : -2147483648 ≤ x) (x1 : x ≤ 2147483647) (y0 : -2147483648 ≤ y) (y1 : y ≤ 2147483647) : xT d mi pc ls (.int (xI y) :: .int (xI x) :: st) h Q ↔ (x < y → xT d mi p ls st h Q) ∧ (¬ x < y → xT d mi t ls st h Q) := by
  subst hp
  have hb := xI_lt (a := x) (b := y) x0 x1 y0 y1
  refine xT_two hq (fun hc go ca => ?_) (fun hc go ca => ?_)
  · have hx : xm_cond .ge (xI x) (xI y) = false := by
      have h3 := hb.mpr hc
      exact decide_eq_false (fun z => by rw [Int32.le_iff_toInt_le] at z; rw [Int32.lt_iff_toInt_lt] at h3; exact absurd h3 (Int.not_lt.mpr z))
    simp only [xm_step, xm_1i, xm_2i, xm_jump_ok ht, hx, if_true, Bool.false_eq_true, if_false]
  · have hx : xm_cond .ge (xI x) (xI y) = true := by
      have h3 := mt hb.mp hc
      refine decide_eq_true ?_; rw [Int32.lt_iff_toInt_lt] at h3; rw [Int32.le_iff_toInt_le]; exact Int.not_lt.mp h3
    simp only [xm_step, xm_1i, xm_2i, xm_jump_ok ht, hx, if_true, Bool.false_eq_true, if_false]
theorem xT_ifgt {off : Int} {t p : Nat} (hq : xq mi pc (.ifCond .gt off) = true) (ht : (pc : Int) + off = (t : Nat)) (hp : p = pc + 3) (x0 : -2147483648 ≤ x) (x1 : x ≤ 2147483647) : xT d mi pc ls (.int (xI x) :: st) h Q ↔ (0 < x → xT d mi t ls st h Q) ∧ (¬ 0 < x → xT d mi p ls st h Q) := by
  subst hp
  have hb := xI_lt (a := 0) (b := x) (by omega) (by omega) x0 x1
  refine xT_two hq (fun hc go ca => ?_) (fun hc go ca => ?_)
  · have hx : xm_cond .gt (xI x) 0 = true := by
      have h3 := hb.mpr hc
      exact decide_eq_true h3
    simp only [xm_step, xm_1i, xm_2i, xm_jump_ok ht, hx, if_true, Bool.false_eq_true, if_false]
  · have hx : xm_cond .gt (xI x) 0 = false := by
      have h3 := mt hb.mp hc
      exact decide_eq_false h3
    simp only [xm_step, xm_1i, xm_2i, xm_jump_ok ht, hx, if_true, Bool.false_eq_true, if_false]
theorem xT_icgt {off : Int} {t p : Nat} (hq : xq mi pc (.if_icmp .gt off) = true) (ht : (pc : Int) + off = (t : Nat)) (hp : p = pc + 3) (x0 : -2147483648 ≤ x) (x1 : x ≤ 2147483647) (y0 : -2147483648 ≤ y) (y1 : y ≤ 2147483647) : xT d mi pc ls (.int (xI y) :: .int (xI x) :: st) h Q ↔ (y < x → xT d mi t ls st h Q) ∧ (¬ y < x → xT d mi p ls st h Q) := by
  subst hp
  have hb := xI_lt (a := y) (b := x) y0 y1 x0 x1
  refine xT_two hq (fun hc go ca => ?_) (fun hc go ca => ?_)
  · have hx : xm_cond .gt (xI x) (xI y) = true := by
      have h3 := hb.mpr hc
      exact decide_eq_true h3
    simp only [xm_step, xm_1i, xm_2i, xm_jump_ok ht, hx, if_true, Bool.false_eq_true, if_false]
  · have hx : xm_cond .gt (xI x) (xI y) = false := by
      have h3 := mt hb.mp hc
      exact decide_eq_false h3
    simp only [xm_step, xm_1i, xm_2i, xm_jump_ok ht, hx, if_true, Bool.false_eq_true, if_false]
theorem xT_ifle {off : Int} {t p : Nat} (hq : xq mi pc (.ifCond .le off) = true) (ht : (pc : Int) + off = (t : Nat)) (hp : p = pc + 3) (x0 : -2147483648 ≤ x) (x1 : x ≤ 2147483647) : xT d mi pc ls (.int (xI x) :: st) h Q ↔ (0 < x → xT d mi p ls st h Q) ∧ (¬ 0 < x → xT d mi t ls st h Q) := by
  subst hp
  have hb := xI_lt (a := 0) (b := x) (by omega) (by omega) x0 x1
  refine xT_two hq (fun hc go ca => ?_) (fun hc go ca => ?_)
  · have hx : xm_cond .le (xI x) 0 = false := by
      have h3 := hb.mpr hc
      exact decide_eq_false (fun z => by rw [Int32.le_iff_toInt_le] at z; rw [Int32.lt_iff_toInt_lt] at h3; exact absurd h3 (Int.not_lt.mpr z))
    simp only [xm_step, xm_1i, xm_2i, xm_jump_ok ht, hx, if_true, Bool.false_eq_true, if_false]
  · have hx : xm_cond .le (xI x) 0 = true := by
      have h3 := mt hb.mp hc
      refine decide_eq_true ?_; rw [Int32.lt_iff_toInt_lt] at h3; rw [Int32.le_iff_toInt_le]; exact Int.not_lt.mp h3
    simp only [xm_step, xm_1i, xm_2i, xm_jump_ok ht, hx, if_true, Bool.false_eq_true, if_false]
theorem xT_icle {off : Int} {t p : Nat} (hq : xq mi pc (.if_icmp .le off) = true) (ht : (pc : Int) + off = (t : Nat)) (hp : p = pc + 3) (x0 : -2147483648 ≤ x) (x1 : x ≤ 2147483647) (y0 : -2147483648 ≤ y) (y1 : y ≤ 2147483647) : xT d mi pc ls (.int (xI y) :: .int (xI x) :: st) h Q ↔ (y < x → xT d mi p ls st h Q) ∧ (¬ y < x → xT d mi t ls st h Q) := by
  subst hp
  have hb := xI_lt (a := y) (b := x) y0 y1 x0 x1
  refine xT_two hq (fun hc go ca => ?_) (fun hc go ca => ?_)
  · have hx : xm_cond .le (xI x) (xI y) = false := by
      have h3 := hb.mpr hc
      exact decide_eq_false (fun z => by rw [Int32.le_iff_toInt_le] at z; rw [Int32.lt_iff_toInt_lt] at h3; exact absurd h3 (Int.not_lt.mpr z))
    simp only [xm_step, xm_1i, xm_2i, xm_jump_ok ht, hx, if_true, Bool.false_eq_true, if_false]
  · have hx : xm_cond .le (xI x) (xI y) = true := by
      have h3 := mt hb.mp hc
      refine decide_eq_true ?_; rw [Int32.lt_iff_toInt_lt] at h3; rw [Int32.le_iff_toInt_le]; exact Int.not_lt.mp h3
    simp only [xm_step, xm_1i, xm_2i, xm_jump_ok ht, hx, if_true, Bool.false_eq_true, if_false]
theorem xT_iaload {N : Nat} (hq : xq mi pc .iaload = true) (hp : pc' = pc + 1) (hS : xhS g.1 o = (1, N)) (ho : o < 35) (x0 : 0 ≤ x) (x1 : x < N) (hN : N ≤ 4000) : xT d mi pc ls (.int (xI x) :: .ref o :: st) (hh f a g) Q ↔ xT d mi pc' ls (.int (xI (a o x)) :: st) (hh f a g) Q := by
  subst hp
  refine xT_go hq fun go ca => ?_
  have h1 := xI_clamp x0 (by omega)
  have h2 : (0 : Int32) ≤ xI x := by rw [← xI_0, xI_le (by omega) (by omega) (by omega) (by omega)]; exact x0
  show (if (xhS g.1 o).1 = 1 ∧ o < 35 ∧ 0 ≤ xI x ∧ (xI x).toNatClampNeg < (xhS g.1 o).2 then go (pc + 1) ls (.int (xI (a o ((xI x).toNatClampNeg : Nat))) :: st) _ else none) = _
  rw [hS, h1, if_pos ⟨rfl, ho, h2, by show x.toNat < N; omega⟩, Int.toNat_of_nonneg x0]
theorem xT_iastore {N : Nat} (hq : xq mi pc .iastore = true) (hp : pc' = pc + 1) (hS : xhS g.1 o = (1, N)) (ho : 0 < o ∧ o < 35) (x0 : 0 ≤ x) (x1 : x < N) (hN : N ≤ 4000) : xT d mi pc ls (.int (xI y) :: .int (xI x) :: .ref o :: st) (hh f a g) Q ↔ xT d mi pc' ls st (hh f (xw a o x y) g) Q := by
  subst hp
  refine xT_go hq fun go ca => ?_
  have h1 := xI_clamp x0 (by omega)
  have h2 : (0 : Int32) ≤ xI x := by rw [← xI_0, xI_le (by omega) (by omega) (by omega) (by omega)]; exact x0
  show (if (xhS g.1 o).1 = 1 ∧ 0 < o ∧ o < 35 ∧ 0 ≤ xI x ∧ (xI x).toNatClampNeg < (xhS g.1 o).2 then go (pc + 1) ls st (xm_setA (hh f a g) o (va_up (xm_A (hh f a g) o) (xI x).toNatClampNeg (xI y))) else none) = _
  rw [hS, h1, if_pos ⟨rfl, ho.1, ho.2, h2, by show x.toNat < N; omega⟩, hh_setA x0]
theorem xT_arraylength {N : Nat} (hq : xq mi pc .arraylength = true) (hp : pc' = pc + 1) (hS : xhS g.1 o = (1, N)) (ho : o < 35) : xT d mi pc ls (.ref o :: st) (hh f a g) Q ↔ xT d mi pc' ls (.int (xI (N : Nat)) :: st) (hh f a g) Q := by
  subst hp
  refine xT_go hq fun go ca => ?_
  show (if 1 ≤ (xhS g.1 o).1 ∧ (xhS g.1 o).1 ≤ 2 ∧ o < 35 then go (pc + 1) ls (.int (Int32.ofNat (xhS g.1 o).2) :: st) (hh f a g) else none) = _
  rw [hS, if_pos ⟨Nat.le_refl 1, Nat.le_succ 1, ho⟩]
  rfl
theorem xT_getf {ci fi : Nat} {v : Value} (hq : xq mi pc (.getfield k) = true) (hp : pc' = pc + 3) (hS : xhS g.1 o = (0, ci)) (ho : 0 < o ∧ o < 35) (hf : (xm_find xt_F (xm_oc mi) k ci).map (·.2.1) = some fi) (hv : xhF f o fi = v) : xT d mi pc ls (.ref o :: st) (hh f a g) Q ↔ xT d mi pc' ls (v :: st) (hh f a g) Q := by
  subst hp; subst hv
  obtain ⟨q, h1, h2⟩ := Option.map_eq_some_iff.mp hf
  refine xT_go hq fun go ca => ?_
  show (if (xhS g.1 o).1 = 0 ∧ 0 < o ∧ o < 35 then (match xm_find xt_F (xm_oc mi) k (xhS g.1 o).2 with
      | some q => go (pc + 3) ls (xhF f o q.2.1 :: st) (hh f a g)
      | none => none) else none) = _
  rw [hS, if_pos ⟨rfl, ho⟩, h1, ← h2]
theorem xT_putf {ci fi : Nat} (hq : xq mi pc (.putfield k) = true) (hp : pc' = pc + 3) (hS : xhS g.1 o = (0, ci)) (ho : 0 < o ∧ o < 35) (hf : (xm_find xt_F (xm_oc mi) k ci).map (·.2.1) = some fi) (ht : xm_ty ci fi = .int) (hn : xm_fin ci fi = false) (hk : xhK o fi = 0) : xT d mi pc ls (.int (xI x) :: .ref o :: st) (hh f a g) Q ↔ xT d mi pc' ls st (hh (xu f o fi x) a g) Q := by
  subst hp
  obtain ⟨q, h1, h2⟩ := Option.map_eq_some_iff.mp hf
  refine xT_go hq fun go ca => ?_
  show (if (xhS g.1 o).1 = 0 ∧ 0 < o ∧ o < 35 then (match xm_find xt_F (xm_oc mi) k (xhS g.1 o).2 with
      | some q => if narrow (xm_ty (xhS g.1 o).2 q.2.1) (.int (xI x)) = .int (xI x) ∧ fits (xm_ty (xhS g.1 o).2 q.2.1) (.int (xI x)) = true ∧ (xm_fin (xhS g.1 o).2 q.2.1 = false ∨ ((xm_name mi).name = "<init>" ∧ xm_decl (xhS g.1 o).2 q.2.1 = (xm_name mi).cls)) then go (pc + 3) ls st (xm_setF (hh f a g) o q.2.1 (.int (xI x))) else none
      | none => none) else none) = _
  rw [hS, if_pos ⟨rfl, ho⟩, h1]
  dsimp only
  rw [h2, ht, if_pos ⟨rfl, rfl, .inl hn⟩, hh_setF hk]
theorem xT_putz {ci fi : Nat} (hq : xq mi pc (.putfield k) = true) (hp : pc' = pc + 3) (hS : xhS g.1 o = (0, ci)) (ho : 0 < o ∧ o < 35) (hf : (xm_find xt_F (xm_oc mi) k ci).map (·.2.1) = some fi) (ht : xm_ty ci fi = .boolean) (hn : xm_fin ci fi = false) (hk : xhK o fi = 0) (hx : x = 0 ∨ x = 1) : xT d mi pc ls (.int (xI x) :: .ref o :: st) (hh f a g) Q ↔ xT d mi pc' ls st (hh (xu f o fi x) a g) Q := by
  subst hp
  obtain ⟨q, h1, h2⟩ := Option.map_eq_some_iff.mp hf
  refine xT_go hq fun go ca => ?_
  show (if (xhS g.1 o).1 = 0 ∧ 0 < o ∧ o < 35 then (match xm_find xt_F (xm_oc mi) k (xhS g.1 o).2 with
      | some q => if narrow (xm_ty (xhS g.1 o).2 q.2.1) (.int (xI x)) = .int (xI x) ∧ fits (xm_ty (xhS g.1 o).2 q.2.1) (.int (xI x)) = true ∧ (xm_fin (xhS g.1 o).2 q.2.1 = false ∨ ((xm_name mi).name = "<init>" ∧ xm_decl (xhS g.1 o).2 q.2.1 = (xm_name mi).cls)) then go (pc + 3) ls st (xm_setF (hh f a g) o q.2.1 (.int (xI x))) else none
      | none => none) else none) = _
  rw [hS, if_pos ⟨rfl, ho⟩, h1]
  dsimp only
  rw [h2, ht, if_pos ⟨by rcases hx with rfl | rfl <;> rfl, by rcases hx with rfl | rfl <;> rfl, .inl hn⟩, hh_setF hk]
theorem xT_ireturn (hq : xq mi pc .ireturn = true) (hr : xm_ret mi = some .int) : xT d mi pc ls [.int (xI x)] h Q ↔ Q (h, .returned (some (.int (xI x)))) := by
  refine xT_ret hq fun go ca => ?_
  show (if ([] : List Value) = [] ∧ xm_okr (xm_ret mi) (xI x) = true then some (h, Outcome.returned (some (.int (xI x)))) else none) = _
  rw [hr, if_pos ⟨rfl, by unfold xm_okr; simp [narrow]⟩]
theorem xT_zreturn (hq : xq mi pc .ireturn = true) (hr : xm_ret mi = some .boolean) (hx : x = 0 ∨ x = 1) : xT d mi pc ls [.int (xI x)] h Q ↔ Q (h, .returned (some (.int (xI x)))) := by
  refine xT_ret hq fun go ca => ?_
  show (if ([] : List Value) = [] ∧ xm_okr (xm_ret mi) (xI x) = true then some (h, Outcome.returned (some (.int (xI x)))) else none) = _
  rw [hr, if_pos ⟨rfl, by rcases hx with rfl | rfl <;> rfl⟩]
theorem xT_return (hq : xq mi pc .return_ = true) (hr : xm_ret mi = none) : xT d mi pc ls [] h Q ↔ Q (h, .returned none) := by
  refine xT_ret hq fun go ca => ?_
  show (if ([] : List Value) = [] ∧ xm_ret mi = none then some (h, Outcome.returned none) else none) = _
  rw [hr, if_pos ⟨rfl, rfl⟩]
theorem xT_abs (hq : xq mi pc (.invokestatic k) = true) (hp : pc' = pc + 3) (hn : xm_find xt_CS (xm_oc mi) k 0 = none ∧ (xm_find xt_B (xm_oc mi) k 0).map (·.1) = some 0) (hw : xm_words st ≤ 8) (hd : 1 ≤ d) (x0 : -2147483648 < x) (x1 : x ≤ 2147483647) : xT d mi pc ls (.int (xI x) :: st) h Q ↔ (x < 0 → xT d mi pc' ls (.int (xI (-x)) :: st) h Q) ∧ (¬ x < 0 → xT d mi pc' ls (.int (xI x) :: st) h Q) := by
  subst hp
  have hb := xI_le (a := 0) (b := x) (by omega) (by omega) (by omega) x1
  have hs : ∀ go ca, xm_step mi go ca d pc ls (.int (xI x) :: st) h (.invokestatic k) = go (pc + 3) ls (.int (if 0 ≤ xI x then xI x else 0 - xI x) :: st) h := fun go ca => by
    simp only [xm_step, hn.1, hn.2]; exact if_pos ⟨hw, hd⟩
  rw [xT_go hq hs]
  by_cases hc : x < 0
  · have : ¬ (0 : Int32) ≤ xI x := fun z => by have := hb.mp z; omega
    rw [if_neg this, ← xI_0, xI_sub, Int.zero_sub]; simp [hc]
  · have : (0 : Int32) ≤ xI x := hb.mpr (by omega)
    rw [if_pos this]; simp [hc]
theorem xT_max (hq : xq mi pc (.invokestatic k) = true) (hp : pc' = pc + 3) (hn : xm_find xt_CS (xm_oc mi) k 0 = none ∧ (xm_find xt_B (xm_oc mi) k 0).map (·.1) = some 1) (hw : xm_words st ≤ 8) (hd : 1 ≤ d) (x0 : -2147483648 ≤ x) (x1 : x ≤ 2147483647) (y0 : -2147483648 ≤ y) (y1 : y ≤ 2147483647) : xT d mi pc ls (.int (xI y) :: .int (xI x) :: st) h Q ↔ (x < y → xT d mi pc' ls (.int (xI y) :: st) h Q) ∧ (¬ x < y → xT d mi pc' ls (.int (xI x) :: st) h Q) := by
  subst hp
  have hb := xI_lt x0 x1 y0 y1
  have hs : ∀ go ca, xm_step mi go ca d pc ls (.int (xI y) :: .int (xI x) :: st) h (.invokestatic k) = go (pc + 3) ls (.int (if xI x < xI y then xI y else xI x) :: st) h := fun go ca => by
    simp only [xm_step, hn.1, hn.2]; exact if_pos ⟨hw, hd⟩
  rw [xT_go hq hs]
  by_cases hc : x < y
  · rw [if_pos (hb.mpr hc)]; simp [hc]
  · rw [if_neg (mt hb.mp hc)]; simp [hc]
theorem xT_min (hq : xq mi pc (.invokestatic k) = true) (hp : pc' = pc + 3) (hn : xm_find xt_CS (xm_oc mi) k 0 = none ∧ (xm_find xt_B (xm_oc mi) k 0).map (·.1) = some 2) (hw : xm_words st ≤ 8) (hd : 1 ≤ d) (x0 : -2147483648 ≤ x) (x1 : x ≤ 2147483647) (y0 : -2147483648 ≤ y) (y1 : y ≤ 2147483647) : xT d mi pc ls (.int (xI y) :: .int (xI x) :: st) h Q ↔ (y < x → xT d mi pc' ls (.int (xI y) :: st) h Q) ∧ (¬ y < x → xT d mi pc' ls (.int (xI x) :: st) h Q) := by
  subst hp
  have hb := xI_lt y0 y1 x0 x1
  have hs : ∀ go ca, xm_step mi go ca d pc ls (.int (xI y) :: .int (xI x) :: st) h (.invokestatic k) = go (pc + 3) ls (.int (if xI y < xI x then xI y else xI x) :: st) h := fun go ca => by
    simp only [xm_step, hn.1, hn.2]; exact if_pos ⟨hw, hd⟩
  rw [xT_go hq hs]
  by_cases hc : y < x
  · rw [if_pos (hb.mpr hc)]; simp [hc]
  · rw [if_neg (mt hb.mp hc)]; simp [hc]
theorem xT_copy {o1 o2 N1 N2 : Nat} {s t n : Int} (hq : xq mi pc (.invokestatic k) = true) (hp : pc' = pc + 3) (hn : xm_find xt_CS (xm_oc mi) k 0 = none ∧ (xm_find xt_B (xm_oc mi) k 0).map (·.1) = some 3) (hw : xm_words st ≤ 8) (hd : 1 ≤ d) (h1 : xhS g.1 o1 = (1, N1)) (h2 : xhS g.1 o2 = (1, N2)) (ho1 : 0 < o1 ∧ o1 < 35) (ho2 : 0 < o2 ∧ o2 < 35) (hN : N1 ≤ 4000 ∧ N2 ≤ 4000) (s0 : 0 ≤ s) (t0 : 0 ≤ t) (n0 : 0 ≤ n) (s1 : s + n ≤ N1) (t1 : t + n ≤ N2) :
    xT d mi pc ls (.int (xI n) :: .int (xI t) :: .ref o2 :: .int (xI s) :: .ref o1 :: st) (hh f a g) Q ↔ xT d mi pc' ls st (hh f (xcp a o1 s o2 t n) g) Q := by
  subst hp
  refine xT_go hq fun go ca => ?_
  have p1 : ∀ z : Int, 0 ≤ z → z ≤ 4000 → (0 : Int32) ≤ xI z := fun z z0 z1 => by rw [← xI_0, xI_le (by omega) (by omega) (by omega) (by omega)]; exact z0
  simp only [xm_step, hn.1, hn.2]
  show (if (xm_words st ≤ 8 ∧ 1 ≤ d) ∧ ((xhS g.1 o1).1 = 1 ∧ 0 < o1 ∧ o1 < 35) ∧ ((xhS g.1 o2).1 = 1 ∧ 0 < o2 ∧ o2 < 35) ∧ 0 ≤ xI s ∧ 0 ≤ xI t ∧ 0 ≤ xI n ∧ (xI s).toNatClampNeg + (xI n).toNatClampNeg ≤ (xhS g.1 o1).2 ∧ (xI t).toNatClampNeg + (xI n).toNatClampNeg ≤ (xhS g.1 o2).2 then
            go (pc + 3) ls st (xm_setA (hh f a g) o2 (va_cpy (xm_A (hh f a g) o1) (xm_A (hh f a g) o2) (xI s).toNatClampNeg (xI t).toNatClampNeg (xI n).toNatClampNeg)) else none) = _
  rw [h1, h2, xI_clamp s0 (by omega), xI_clamp t0 (by omega), xI_clamp n0 (by omega), if_pos ⟨⟨hw, hd⟩, ⟨rfl, ho1⟩, ⟨rfl, ho2⟩, p1 s s0 (by omega), p1 t t0 (by omega), p1 n n0 (by omega), by dsimp only; omega, by dsimp only; omega⟩, hh_cpy s0 t0 n0]
theorem xT_throw {ex ck sk mk : Nat} (hq : xq mi pc (.new ck) = true) (hn : xm_find xt_N (xm_oc mi) ck 0 = none ∧ xm_find xt_T mi pc 0 = some (ex, ck, sk, mk) ∧ xm_hand mi = []) (h3 : decode (xm_code mi) (pc + 3) = .ok (.dup, 1)) (h4 : decode (xm_code mi) (pc + 4) = .ok (.ldc sk, 2)) (h6 : decode (xm_code mi) (pc + 6) = .ok (.invokespecial mk, 3)) (h9 : decode (xm_code mi) (pc + 9) = .ok (.athrow, 1)) (hd : 7 ≤ d) (hc : g.2.2.1 ≤ 1075) (hs : g.2.2.2 ≤ 21514) : xT d mi pc ls [] (hh f a g) Q ↔ Q (hh f a (g.1, g.2.1, g.2.2.1 + 1, g.2.2.2 + 6), .threw ex) := by
  refine xT_ret hq fun go ca => ?_
  simp only [xm_step, hn.1, hn.2.1]
  rw [if_pos ⟨trivial, hn.2.2, h3, h4, h6, h9, hd, by decide, by show g.2.2.1 + 1 ≤ 1076; omega, by show g.2.2.2 + 6 ≤ 21520; omega⟩]
  rfl
theorem xT_static {mj na : Nat} {vs rest st0 : List Value} (hq : xq mi pc (.invokestatic k) = true) (hn : (xm_find xt_CS (xm_oc mi) k 0).map (fun q => (q.1, q.2.1)) = some (mj, na)) (hl : (xm_slots vs).length ≤ xm_maxL mj ∧ xm_maxL mj ≤ 14) (hv : st0.take na = vs.reverse) (hr : st0.drop na = rest) (hna : na ≤ st0.length) (hw : xm_words rest ≤ 8) (hd : 1 ≤ d) : xT d mi pc ls st0 h Q ↔ xTC (d - 1) mj vs h (xAf d mi pc ls rest Q) := by
  obtain ⟨q, h1, h2⟩ := Option.map_eq_some_iff.mp hn
  cases h2
  refine xT_call hq (fun go ca => ?_) hd hl
  simp only [xm_step, h1]
  rw [hr, hv, List.reverse_reverse, if_pos ⟨hw, hna⟩]
theorem xT_special {mj na : Nat} {vs rest st0 : List Value} (hq : xq mi pc (.invokespecial k) = true) (hn : (xm_find xt_CI (xm_oc mi) k 0).map (fun q => (q.1, q.2.1)) = some (mj, na)) (hl : (xm_slots vs).length ≤ xm_maxL mj ∧ xm_maxL mj ≤ 14) (hv : st0.take (na + 1) = vs.reverse) (hr : st0.drop (na + 1) = rest) (hna : na + 1 ≤ st0.length) (hi : xm_isR (st0.getD na .null) = true) (hw : xm_words rest ≤ 8) (hd : 1 ≤ d) : xT d mi pc ls st0 h Q ↔ xTC (d - 1) mj vs h (xAf d mi pc ls rest Q) := by
  obtain ⟨q, h1, h2⟩ := Option.map_eq_some_iff.mp hn
  cases h2
  refine xT_call hq (fun go ca => ?_) hd hl
  simp only [xm_step, h1]
  rw [hr, hv, List.reverse_reverse, if_pos ⟨hw, hna, hi⟩]
theorem xT_virtual {mj na ci : Nat} {vs rest st0 : List Value} (hq : xq mi pc (.invokevirtual k) = true) (hV : xm_find xt_V (xm_oc mi) k 0 = some na) (hn : (xm_find xt_CV (xm_oc mi) k ci).map (fun q => (q.1, q.2.1)) = some (mj, na)) (hl : (xm_slots vs).length ≤ xm_maxL mj ∧ xm_maxL mj ≤ 14) (hv : st0.take (na + 1) = vs.reverse) (hr : st0.drop (na + 1) = rest) (hna : na + 1 ≤ st0.length) (hi : st0.getD na .null = .ref o) (hS : xhS g.1 o = (0, ci)) (ho : 0 < o ∧ o < 35) (hw : xm_words rest ≤ 8) (hd : 1 ≤ d) : xT d mi pc ls st0 (hh f a g) Q ↔ xTC (d - 1) mj vs (hh f a g) (xAf d mi pc ls rest Q) := by
  obtain ⟨q, h1, h2⟩ := Option.map_eq_some_iff.mp hn
  have e1 : q.1 = mj := congrArg Prod.fst h2
  have e2 : q.2.1 = na := congrArg Prod.snd h2
  refine xT_call hq (fun go ca => ?_) hd hl
  simp only [xm_step, hV]
  rw [hr, if_pos ⟨hna, hw⟩, hi]
  show (if (xhS g.1 o).1 = 0 ∧ 0 < o ∧ o < 35 then
            (match xm_find xt_CV (xm_oc mi) k (xhS g.1 o).2 with
            | some q => if q.2.1 = na then xm_after mi pc go ls rest (ca q.1 (st0.take (na + 1)).reverse (hh f a g)) else none
            | none => none)
          else none) = _
  rw [hS, if_pos ⟨rfl, ho⟩, h1]
  dsimp only
  rw [if_pos e2, e1, hv, List.reverse_reverse]
theorem xAf_none {rest : List Value} : xAf d mi pc ls rest Q (h, .returned none) ↔ xT d mi (pc + 3) ls rest h Q := Iff.rfl
theorem xAf_some {rest : List Value} {v : Value} : xAf d mi pc ls rest Q (h, .returned (some v)) ↔ xT d mi (pc + 3) ls (v :: rest) h Q := Iff.rfl
theorem xAf_threw {rest : List Value} {ex t p : Nat} {k : Fin 4} {ls' : List Value} (hc : xm_catch mi pc ex = some t) (hd : decode (xm_code mi) t = .ok (.astore_n k, 1)) (hk : k.val < ls.length) (hl : xm_put1 ls k.val .null = ls') (hp : p = t + 1) : xAf d mi pc ls rest Q (h, .threw ex) ↔ xT d mi p ls' [] h Q := by
  subst hp; subst hl
  unfold xAf; dsimp only
  rw [hc]; dsimp only; rw [hd]; simp only [if_pos hk]
theorem xAf_threw2 {rest : List Value} {ex t p k : Nat} {ls' : List Value} (hc : xm_catch mi pc ex = some t) (hd : decode (xm_code mi) t = .ok (.astore k, 2)) (hk : k < ls.length) (hl : xm_put1 ls k .null = ls') (hp : p = t + 2) : xAf d mi pc ls rest Q (h, .threw ex) ↔ xT d mi p ls' [] h Q := by
  subst hp; subst hl
  unfold xAf; dsimp only
  rw [hc]; dsimp only; rw [hd]; simp only [if_pos hk]
end XRULES
