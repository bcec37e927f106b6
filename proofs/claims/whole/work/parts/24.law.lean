/-! the law's places, the longs, the switches (by program: wip/whole/gen24.py) -/
def gx (g : xG) : xG := (g.1, g.2.1, g.2.2.1 + 1, g.2.2.2 + 6)
theorem gx_eq (g : xG) : (g.1, g.2.1, g.2.2.1 + 1, g.2.2.2 + 6) = gx g := rfl
def gl (g : xG) (v : Int64) : xG := (g.1, xm_up g.2.1 34 0 v, g.2.2.1, g.2.2.2)
theorem gl_get (g : xG) (v : Int64) : (gl g v).2.1 34 0 = v := by simp [gl, xm_up, va_up]
theorem lg_cmp_self (v : Int64) : lg_cmp v v = xI 0 := by unfold lg_cmp; simp [xI]
section XR24
variable {d mi pc pc' : Nat} {Q : xm_H × Outcome → Prop} {h : xm_H} {st ls : List Value} {f : Nat → Nat → Int} {a : Nat → Int → Int} {g : xG} {x y z : Int} {v w : Int32} {vl wl : Int64} {ov ow : Nat}
theorem xT_lastore (hq : xq mi pc .lastore = true) (hp : pc' = pc + 1) : xT d mi pc ls (.long vl :: .int (xI 0) :: .ref 34 :: st) (hh f a g) Q ↔ xT d mi pc' ls st (hh f a (gl g vl)) Q := by
  subst hp
  exact xT_go hq fun go ca => rfl
theorem xT_laload (hq : xq mi pc .laload = true) (hp : pc' = pc + 1) : xT d mi pc ls (.int (xI 0) :: .ref 34 :: st) (hh f a g) Q ↔ xT d mi pc' ls (.long (g.2.1 34 0) :: st) (hh f a g) Q := by
  subst hp
  exact xT_go hq fun go ca => rfl
theorem xT_tsw {dflt lo hi off : Int} {offs : Array Int} {t : Nat} (hq : xq mi pc (.tableswitch dflt lo hi offs) = true) (x0 : -2147483648 ≤ x) (x1 : x ≤ 2147483647) (h1 : lo ≤ x) (h2 : x ≤ hi) (ho : offs[(x - lo).toNat]? = some off) (ht : (pc : Int) + off = (t : Nat)) : xT d mi pc ls (.int (xI x) :: st) h Q ↔ xT d mi t ls st h Q := by
  refine xT_go hq fun go ca => ?_
  simp only [xm_step, xm_1i, xI_toInt x0 x1]
  rw [if_neg (by omega), ho]
  simp only [xm_jump_ok ht]
theorem xT_tsd {dflt lo hi : Int} {offs : Array Int} {t : Nat} (hq : xq mi pc (.tableswitch dflt lo hi offs) = true) (x0 : -2147483648 ≤ x) (x1 : x ≤ 2147483647) (h1 : x < lo ∨ hi < x) (ht : (pc : Int) + dflt = (t : Nat)) : xT d mi pc ls (.int (xI x) :: st) h Q ↔ xT d mi t ls st h Q := by
  refine xT_go hq fun go ca => ?_
  simp only [xm_step, xm_1i, xI_toInt x0 x1]
  rw [if_pos h1]
  simp only [xm_jump_ok ht]
end XR24
section XR23
variable {d : Nat} {Q : xm_H × Outcome → Prop} {h : xm_H} {st ls : List Value} {f : Nat → Nat → Int} {a : Nat → Int → Int} {g : xG} {x y z : Int} {v w : Int32} {vl wl : Int64} {ov ow : Nat} {l0 l1 l2 l3 l4 l5 l6 l7 l8 l9 l10 l11 l12 l13 : Value}
theorem r0_40_c0 (hx : x = 0) : xT d 0 40 ls (.int (xI x) :: st) h Q ↔ xT d 0 112 ls st h Q := by
  subst hx; exact xT_tsw (dflt := 898) (lo := 0) (hi := 13) (offs := #[72, 132, 188, 292, 384, 440, 496, 564, 577, 590, 646, 694, 794, 830]) (by decide +kernel) (by omega) (by omega) (by omega) (by omega) rfl rfl
theorem r0_40_c1 (hx : x = 1) : xT d 0 40 ls (.int (xI x) :: st) h Q ↔ xT d 0 172 ls st h Q := by
  subst hx; exact xT_tsw (dflt := 898) (lo := 0) (hi := 13) (offs := #[72, 132, 188, 292, 384, 440, 496, 564, 577, 590, 646, 694, 794, 830]) (by decide +kernel) (by omega) (by omega) (by omega) (by omega) rfl rfl
theorem r0_40_c2 (hx : x = 2) : xT d 0 40 ls (.int (xI x) :: st) h Q ↔ xT d 0 228 ls st h Q := by
  subst hx; exact xT_tsw (dflt := 898) (lo := 0) (hi := 13) (offs := #[72, 132, 188, 292, 384, 440, 496, 564, 577, 590, 646, 694, 794, 830]) (by decide +kernel) (by omega) (by omega) (by omega) (by omega) rfl rfl
theorem r0_40_c3 (hx : x = 3) : xT d 0 40 ls (.int (xI x) :: st) h Q ↔ xT d 0 332 ls st h Q := by
  subst hx; exact xT_tsw (dflt := 898) (lo := 0) (hi := 13) (offs := #[72, 132, 188, 292, 384, 440, 496, 564, 577, 590, 646, 694, 794, 830]) (by decide +kernel) (by omega) (by omega) (by omega) (by omega) rfl rfl
theorem r0_40_c4 (hx : x = 4) : xT d 0 40 ls (.int (xI x) :: st) h Q ↔ xT d 0 424 ls st h Q := by
  subst hx; exact xT_tsw (dflt := 898) (lo := 0) (hi := 13) (offs := #[72, 132, 188, 292, 384, 440, 496, 564, 577, 590, 646, 694, 794, 830]) (by decide +kernel) (by omega) (by omega) (by omega) (by omega) rfl rfl
theorem r0_40_c5 (hx : x = 5) : xT d 0 40 ls (.int (xI x) :: st) h Q ↔ xT d 0 480 ls st h Q := by
  subst hx; exact xT_tsw (dflt := 898) (lo := 0) (hi := 13) (offs := #[72, 132, 188, 292, 384, 440, 496, 564, 577, 590, 646, 694, 794, 830]) (by decide +kernel) (by omega) (by omega) (by omega) (by omega) rfl rfl
theorem r0_40_c6 (hx : x = 6) : xT d 0 40 ls (.int (xI x) :: st) h Q ↔ xT d 0 536 ls st h Q := by
  subst hx; exact xT_tsw (dflt := 898) (lo := 0) (hi := 13) (offs := #[72, 132, 188, 292, 384, 440, 496, 564, 577, 590, 646, 694, 794, 830]) (by decide +kernel) (by omega) (by omega) (by omega) (by omega) rfl rfl
theorem r0_40_c7 (hx : x = 7) : xT d 0 40 ls (.int (xI x) :: st) h Q ↔ xT d 0 604 ls st h Q := by
  subst hx; exact xT_tsw (dflt := 898) (lo := 0) (hi := 13) (offs := #[72, 132, 188, 292, 384, 440, 496, 564, 577, 590, 646, 694, 794, 830]) (by decide +kernel) (by omega) (by omega) (by omega) (by omega) rfl rfl
theorem r0_40_c8 (hx : x = 8) : xT d 0 40 ls (.int (xI x) :: st) h Q ↔ xT d 0 617 ls st h Q := by
  subst hx; exact xT_tsw (dflt := 898) (lo := 0) (hi := 13) (offs := #[72, 132, 188, 292, 384, 440, 496, 564, 577, 590, 646, 694, 794, 830]) (by decide +kernel) (by omega) (by omega) (by omega) (by omega) rfl rfl
theorem r0_40_c9 (hx : x = 9) : xT d 0 40 ls (.int (xI x) :: st) h Q ↔ xT d 0 630 ls st h Q := by
  subst hx; exact xT_tsw (dflt := 898) (lo := 0) (hi := 13) (offs := #[72, 132, 188, 292, 384, 440, 496, 564, 577, 590, 646, 694, 794, 830]) (by decide +kernel) (by omega) (by omega) (by omega) (by omega) rfl rfl
theorem r0_40_c10 (hx : x = 10) : xT d 0 40 ls (.int (xI x) :: st) h Q ↔ xT d 0 686 ls st h Q := by
  subst hx; exact xT_tsw (dflt := 898) (lo := 0) (hi := 13) (offs := #[72, 132, 188, 292, 384, 440, 496, 564, 577, 590, 646, 694, 794, 830]) (by decide +kernel) (by omega) (by omega) (by omega) (by omega) rfl rfl
theorem r0_40_c11 (hx : x = 11) : xT d 0 40 ls (.int (xI x) :: st) h Q ↔ xT d 0 734 ls st h Q := by
  subst hx; exact xT_tsw (dflt := 898) (lo := 0) (hi := 13) (offs := #[72, 132, 188, 292, 384, 440, 496, 564, 577, 590, 646, 694, 794, 830]) (by decide +kernel) (by omega) (by omega) (by omega) (by omega) rfl rfl
theorem r0_40_c12 (hx : x = 12) : xT d 0 40 ls (.int (xI x) :: st) h Q ↔ xT d 0 834 ls st h Q := by
  subst hx; exact xT_tsw (dflt := 898) (lo := 0) (hi := 13) (offs := #[72, 132, 188, 292, 384, 440, 496, 564, 577, 590, 646, 694, 794, 830]) (by decide +kernel) (by omega) (by omega) (by omega) (by omega) rfl rfl
theorem r0_40_c13 (hx : x = 13) : xT d 0 40 ls (.int (xI x) :: st) h Q ↔ xT d 0 870 ls st h Q := by
  subst hx; exact xT_tsw (dflt := 898) (lo := 0) (hi := 13) (offs := #[72, 132, 188, 292, 384, 440, 496, 564, 577, 590, 646, 694, 794, 830]) (by decide +kernel) (by omega) (by omega) (by omega) (by omega) rfl rfl
theorem r0_40_d (x0 : -2147483648 ≤ x) (x1 : x ≤ 2147483647) (hx : x < 0 ∨ 13 < x) : xT d 0 40 ls (.int (xI x) :: st) h Q ↔ xT d 0 938 ls st h Q := xT_tsd (dflt := 898) (lo := 0) (hi := 13) (offs := #[72, 132, 188, 292, 384, 440, 496, 564, 577, 590, 646, 694, 794, 830]) (by decide +kernel) x0 x1 hx rfl
theorem r0_215 : xT d 0 215 ls (.int (xI 0) :: .ref 34 :: st) (hh f a g) Q ↔ xT d 0 216 ls (.long (g.2.1 34 0) :: st) (hh f a g) Q := xT_laload (by decide +kernel) rfl
theorem r0_319 : xT d 0 319 ls (.int (xI 0) :: .ref 34 :: st) (hh f a g) Q ↔ xT d 0 320 ls (.long (g.2.1 34 0) :: st) (hh f a g) Q := xT_laload (by decide +kernel) rfl
theorem r0_411 : xT d 0 411 ls (.int (xI 0) :: .ref 34 :: st) (hh f a g) Q ↔ xT d 0 412 ls (.long (g.2.1 34 0) :: st) (hh f a g) Q := xT_laload (by decide +kernel) rfl
theorem r0_467 : xT d 0 467 ls (.int (xI 0) :: .ref 34 :: st) (hh f a g) Q ↔ xT d 0 468 ls (.long (g.2.1 34 0) :: st) (hh f a g) Q := xT_laload (by decide +kernel) rfl
theorem r0_523 : xT d 0 523 ls (.int (xI 0) :: .ref 34 :: st) (hh f a g) Q ↔ xT d 0 524 ls (.long (g.2.1 34 0) :: st) (hh f a g) Q := xT_laload (by decide +kernel) rfl
theorem r0_591 : xT d 0 591 ls (.int (xI 0) :: .ref 34 :: st) (hh f a g) Q ↔ xT d 0 592 ls (.long (g.2.1 34 0) :: st) (hh f a g) Q := xT_laload (by decide +kernel) rfl
theorem r0_673 : xT d 0 673 ls (.int (xI 0) :: .ref 34 :: st) (hh f a g) Q ↔ xT d 0 674 ls (.long (g.2.1 34 0) :: st) (hh f a g) Q := xT_laload (by decide +kernel) rfl
theorem r0_821 : xT d 0 821 ls (.int (xI 0) :: .ref 34 :: st) (hh f a g) Q ↔ xT d 0 822 ls (.long (g.2.1 34 0) :: st) (hh f a g) Q := xT_laload (by decide +kernel) rfl
theorem r0_925 : xT d 0 925 ls (.int (xI 0) :: .ref 34 :: st) (hh f a g) Q ↔ xT d 0 926 ls (.long (g.2.1 34 0) :: st) (hh f a g) Q := xT_laload (by decide +kernel) rfl
theorem r1_8 : xT d 1 8 ls (.long vl :: .int (xI 0) :: .ref 34 :: st) (hh f a g) Q ↔ xT d 1 9 ls st (hh f a (gl g vl)) Q := xT_lastore (by decide +kernel) rfl
theorem r3_10 : xT d 3 10 ls (.long vl :: .int (xI 0) :: .ref 34 :: st) (hh f a g) Q ↔ xT d 3 11 ls st (hh f a (gl g vl)) Q := xT_lastore (by decide +kernel) rfl
theorem r5_9 : xT d 5 9 ls (.long vl :: .int (xI 0) :: .ref 34 :: st) (hh f a g) Q ↔ xT d 5 10 ls st (hh f a (gl g vl)) Q := xT_lastore (by decide +kernel) rfl
theorem r7_8 : xT d 7 8 ls (.long vl :: .int (xI 0) :: .ref 34 :: st) (hh f a g) Q ↔ xT d 7 9 ls st (hh f a (gl g vl)) Q := xT_lastore (by decide +kernel) rfl
theorem r8_15 : xT d 8 15 ls (.long vl :: .int (xI 0) :: .ref 34 :: st) (hh f a g) Q ↔ xT d 8 16 ls st (hh f a (gl g vl)) Q := xT_lastore (by decide +kernel) rfl
theorem r9_13 : xT d 9 13 ls (.long vl :: .int (xI 0) :: .ref 34 :: st) (hh f a g) Q ↔ xT d 9 14 ls st (hh f a (gl g vl)) Q := xT_lastore (by decide +kernel) rfl
theorem r10_8 : xT d 10 8 ls (.long vl :: .int (xI 0) :: .ref 34 :: st) (hh f a g) Q ↔ xT d 10 9 ls st (hh f a (gl g vl)) Q := xT_lastore (by decide +kernel) rfl
theorem r11_8 : xT d 11 8 ls (.long vl :: .int (xI 0) :: .ref 34 :: st) (hh f a g) Q ↔ xT d 11 9 ls st (hh f a (gl g vl)) Q := xT_lastore (by decide +kernel) rfl
theorem r12_9 : xT d 12 9 ls (.long vl :: .int (xI 0) :: .ref 34 :: st) (hh f a g) Q ↔ xT d 12 10 ls st (hh f a (gl g vl)) Q := xT_lastore (by decide +kernel) rfl
theorem r30_1_c0 (hx : x = 0) : xT d 30 1 ls (.int (xI x) :: st) h Q ↔ xT d 30 32 ls st h Q := by
  subst hx; exact xT_tsw (dflt := 63) (lo := 0) (hi := 3) (offs := #[31, 39, 47, 55]) (by decide +kernel) (by omega) (by omega) (by omega) (by omega) rfl rfl
theorem r30_1_c1 (hx : x = 1) : xT d 30 1 ls (.int (xI x) :: st) h Q ↔ xT d 30 40 ls st h Q := by
  subst hx; exact xT_tsw (dflt := 63) (lo := 0) (hi := 3) (offs := #[31, 39, 47, 55]) (by decide +kernel) (by omega) (by omega) (by omega) (by omega) rfl rfl
theorem r30_1_c2 (hx : x = 2) : xT d 30 1 ls (.int (xI x) :: st) h Q ↔ xT d 30 48 ls st h Q := by
  subst hx; exact xT_tsw (dflt := 63) (lo := 0) (hi := 3) (offs := #[31, 39, 47, 55]) (by decide +kernel) (by omega) (by omega) (by omega) (by omega) rfl rfl
theorem r30_1_c3 (hx : x = 3) : xT d 30 1 ls (.int (xI x) :: st) h Q ↔ xT d 30 56 ls st h Q := by
  subst hx; exact xT_tsw (dflt := 63) (lo := 0) (hi := 3) (offs := #[31, 39, 47, 55]) (by decide +kernel) (by omega) (by omega) (by omega) (by omega) rfl rfl
theorem r30_1_d (x0 : -2147483648 ≤ x) (x1 : x ≤ 2147483647) (hx : x < 0 ∨ 3 < x) : xT d 30 1 ls (.int (xI x) :: st) h Q ↔ xT d 30 64 ls st h Q := xT_tsd (dflt := 63) (lo := 0) (hi := 3) (offs := #[31, 39, 47, 55]) (by decide +kernel) x0 x1 hx rfl
theorem r0_23 : xT d 0 23 (l0 :: l1 :: l2 :: l3 :: .int v :: ls) (st) h Q ↔ xT d 0 25 (l0 :: l1 :: l2 :: l3 :: .int v :: ls) (.int v :: st) h Q := xT_iload (k := 4) (by decide +kernel) rfl rfl
theorem r0_25 : xT d 0 25 (.ref ov :: ls) (st) h Q ↔ xT d 0 26 (.ref ov :: ls) (.ref ov :: st) h Q := xT_aload_n (k := 0) (by decide +kernel) rfl rfl
theorem r0_26 : xT d 0 26 (ls) (.ref 0 :: st) (hh f a g) Q ↔ xT d 0 27 (ls) (.int (xI (g.1 : Nat)) :: st) (hh f a g) Q := xT_arraylength (N := g.1) (by decide +kernel) rfl rfl (Nat.le_of_ble_eq_true rfl)
theorem r0_27 : xT d 0 27 (ls) (st) h Q ↔ xT d 0 29 (ls) (.int (xI 6) :: st) h Q := xT_bipush (n := 6) (by decide +kernel) rfl (by decide +kernel)
theorem r0_29 : xT d 0 29 (ls) (.int (xI y) :: .int (xI x) :: st) h Q ↔ xT d 0 30 (ls) (.int (xI (x - y)) :: st) h Q := xT_isub (by decide +kernel) rfl
theorem r0_30 (x0 : -2147483648 ≤ x) (x1 : x ≤ 2147483647) (y0 : -2147483648 ≤ y) (y1 : y ≤ 2147483647) : xT d 0 30 (ls) (.int (xI y) :: .int (xI x) :: st) h Q ↔ (y < x → xT d 0 944 (ls) (st) h Q) ∧ (¬ y < x → xT d 0 33 (ls) (st) h Q) := xT_icgt (off := 914) (by decide +kernel) rfl rfl x0 x1 y0 y1
theorem r0_33 : xT d 0 33 (.ref ov :: ls) (st) h Q ↔ xT d 0 34 (.ref ov :: ls) (.ref ov :: st) h Q := xT_aload_n (k := 0) (by decide +kernel) rfl rfl
theorem r0_34 : xT d 0 34 (l0 :: l1 :: l2 :: l3 :: .int v :: ls) (st) h Q ↔ xT d 0 36 (l0 :: l1 :: l2 :: l3 :: .int v :: ls) (.int v :: st) h Q := xT_iload (k := 4) (by decide +kernel) rfl rfl
theorem r0_36 (x0 : 0 ≤ x) (x1 : x < g.1) (hL : g.1 ≤ 4000) : xT d 0 36 (ls) (.int (xI x) :: .ref 0 :: st) (hh f a g) Q ↔ xT d 0 37 (ls) (.int (xI (a 0 x)) :: st) (hh f a g) Q := xT_iaload (N := g.1) (by decide +kernel) rfl rfl (Nat.le_of_ble_eq_true rfl) x0 x1 hL
theorem r0_37 : xT d 0 37 (ls) (st) h Q ↔ xT d 0 39 (ls) (.int (xI 15) :: st) h Q := xT_bipush (n := 15) (by decide +kernel) rfl (by decide +kernel)
theorem r0_39 : xT d 0 39 (ls) (.int (xI y) :: .int (xI x) :: st) h Q ↔ xT d 0 40 (ls) (.int (xI (xA x y)) :: st) h Q := xT_iand (by decide +kernel) rfl
theorem r0_112 : xT d 0 112 (l0 :: .ref ov :: ls) (st) h Q ↔ xT d 0 113 (l0 :: .ref ov :: ls) (.ref ov :: st) h Q := xT_aload_n (k := 1) (by decide +kernel) rfl rfl
theorem r0_113 : xT d 0 113 (.ref ov :: ls) (st) h Q ↔ xT d 0 114 (.ref ov :: ls) (.ref ov :: st) h Q := xT_aload_n (k := 0) (by decide +kernel) rfl rfl
theorem r0_114 : xT d 0 114 (l0 :: l1 :: l2 :: l3 :: .int v :: ls) (st) h Q ↔ xT d 0 116 (l0 :: l1 :: l2 :: l3 :: .int v :: ls) (.int v :: st) h Q := xT_iload (k := 4) (by decide +kernel) rfl rfl
theorem r0_116 : xT d 0 116 (ls) (st) h Q ↔ xT d 0 117 (ls) (.int (xI 1) :: st) h Q := xT_iconst (n := 1) (by decide +kernel) rfl
theorem r0_117 : xT d 0 117 (ls) (.int (xI y) :: .int (xI x) :: st) h Q ↔ xT d 0 118 (ls) (.int (xI (x + y)) :: st) h Q := xT_iadd (by decide +kernel) rfl
theorem r0_118 (x0 : 0 ≤ x) (x1 : x < g.1) (hL : g.1 ≤ 4000) : xT d 0 118 (ls) (.int (xI x) :: .ref 0 :: st) (hh f a g) Q ↔ xT d 0 119 (ls) (.int (xI (a 0 x)) :: st) (hh f a g) Q := xT_iaload (N := g.1) (by decide +kernel) rfl rfl (Nat.le_of_ble_eq_true rfl) x0 x1 hL
theorem r0_119 : xT d 0 119 (.ref ov :: ls) (st) h Q ↔ xT d 0 120 (.ref ov :: ls) (.ref ov :: st) h Q := xT_aload_n (k := 0) (by decide +kernel) rfl rfl
theorem r0_120 : xT d 0 120 (l0 :: l1 :: l2 :: l3 :: .int v :: ls) (st) h Q ↔ xT d 0 122 (l0 :: l1 :: l2 :: l3 :: .int v :: ls) (.int v :: st) h Q := xT_iload (k := 4) (by decide +kernel) rfl rfl
theorem r0_122 : xT d 0 122 (ls) (st) h Q ↔ xT d 0 123 (ls) (.int (xI 2) :: st) h Q := xT_iconst (n := 2) (by decide +kernel) rfl
theorem r0_123 : xT d 0 123 (ls) (.int (xI y) :: .int (xI x) :: st) h Q ↔ xT d 0 124 (ls) (.int (xI (x + y)) :: st) h Q := xT_iadd (by decide +kernel) rfl
theorem r0_124 (x0 : 0 ≤ x) (x1 : x < g.1) (hL : g.1 ≤ 4000) : xT d 0 124 (ls) (.int (xI x) :: .ref 0 :: st) (hh f a g) Q ↔ xT d 0 125 (ls) (.int (xI (a 0 x)) :: st) (hh f a g) Q := xT_iaload (N := g.1) (by decide +kernel) rfl rfl (Nat.le_of_ble_eq_true rfl) x0 x1 hL
theorem r0_125 : xT d 0 125 (.ref ov :: ls) (st) h Q ↔ xT d 0 126 (.ref ov :: ls) (.ref ov :: st) h Q := xT_aload_n (k := 0) (by decide +kernel) rfl rfl
theorem r0_126 : xT d 0 126 (l0 :: l1 :: l2 :: l3 :: .int v :: ls) (st) h Q ↔ xT d 0 128 (l0 :: l1 :: l2 :: l3 :: .int v :: ls) (.int v :: st) h Q := xT_iload (k := 4) (by decide +kernel) rfl rfl
theorem r0_128 : xT d 0 128 (ls) (st) h Q ↔ xT d 0 129 (ls) (.int (xI 3) :: st) h Q := xT_iconst (n := 3) (by decide +kernel) rfl
theorem r0_129 : xT d 0 129 (ls) (.int (xI y) :: .int (xI x) :: st) h Q ↔ xT d 0 130 (ls) (.int (xI (x + y)) :: st) h Q := xT_iadd (by decide +kernel) rfl
theorem r0_130 (x0 : 0 ≤ x) (x1 : x < g.1) (hL : g.1 ≤ 4000) : xT d 0 130 (ls) (.int (xI x) :: .ref 0 :: st) (hh f a g) Q ↔ xT d 0 131 (ls) (.int (xI (a 0 x)) :: st) (hh f a g) Q := xT_iaload (N := g.1) (by decide +kernel) rfl rfl (Nat.le_of_ble_eq_true rfl) x0 x1 hL
theorem r0_131 {z0 : Int32} {z1 : Int32} {z2 : Int32} {z3 : Nat} (hd : 1 ≤ d) : xT d 0 131 (ls) ([.int z0, .int z1, .int z2, .ref z3]) h Q ↔ xTC (d - 1) 6 [.ref z3, .int z2, .int z1, .int z0] h (xAf d 0 131 (ls) [] Q) := xT_static (k := 63) (na := 4) (by decide +kernel) (by decide +kernel) ⟨Nat.le_of_ble_eq_true rfl, Nat.le_of_ble_eq_true rfl⟩ rfl rfl (Nat.le_of_ble_eq_true rfl) (Nat.le_of_ble_eq_true rfl) hd
theorem r0_134 : xT d 0 134 ([l0, l1, l2, l3, .int w, l5, l6]) (.int v :: st) h Q ↔ xT d 0 136 ([l0, l1, l2, l3, .int w, .int v, l6]) (st) h Q := xT_istore (k := 5) (by decide +kernel) rfl (Nat.le_of_ble_eq_true rfl) rfl
theorem r0_136 : xT d 0 136 (l0 :: l1 :: .ref ov :: ls) (st) h Q ↔ xT d 0 137 (l0 :: l1 :: .ref ov :: ls) (.ref ov :: st) h Q := xT_aload_n (k := 2) (by decide +kernel) rfl rfl
theorem r0_137 : xT d 0 137 (.ref ov :: ls) (st) h Q ↔ xT d 0 138 (.ref ov :: ls) (.ref ov :: st) h Q := xT_aload_n (k := 0) (by decide +kernel) rfl rfl
theorem r0_138 : xT d 0 138 (l0 :: l1 :: l2 :: l3 :: .int v :: ls) (st) h Q ↔ xT d 0 140 (l0 :: l1 :: l2 :: l3 :: .int v :: ls) (.int v :: st) h Q := xT_iload (k := 4) (by decide +kernel) rfl rfl
theorem r0_140 : xT d 0 140 (ls) (st) h Q ↔ xT d 0 141 (ls) (.int (xI 1) :: st) h Q := xT_iconst (n := 1) (by decide +kernel) rfl
theorem r0_141 : xT d 0 141 (ls) (.int (xI y) :: .int (xI x) :: st) h Q ↔ xT d 0 142 (ls) (.int (xI (x + y)) :: st) h Q := xT_iadd (by decide +kernel) rfl
theorem r0_142 (x0 : 0 ≤ x) (x1 : x < g.1) (hL : g.1 ≤ 4000) : xT d 0 142 (ls) (.int (xI x) :: .ref 0 :: st) (hh f a g) Q ↔ xT d 0 143 (ls) (.int (xI (a 0 x)) :: st) (hh f a g) Q := xT_iaload (N := g.1) (by decide +kernel) rfl rfl (Nat.le_of_ble_eq_true rfl) x0 x1 hL
theorem r0_143 : xT d 0 143 (.ref ov :: ls) (st) h Q ↔ xT d 0 144 (.ref ov :: ls) (.ref ov :: st) h Q := xT_aload_n (k := 0) (by decide +kernel) rfl rfl
theorem r0_144 : xT d 0 144 (l0 :: l1 :: l2 :: l3 :: .int v :: ls) (st) h Q ↔ xT d 0 146 (l0 :: l1 :: l2 :: l3 :: .int v :: ls) (.int v :: st) h Q := xT_iload (k := 4) (by decide +kernel) rfl rfl
theorem r0_146 : xT d 0 146 (ls) (st) h Q ↔ xT d 0 147 (ls) (.int (xI 2) :: st) h Q := xT_iconst (n := 2) (by decide +kernel) rfl
theorem r0_147 : xT d 0 147 (ls) (.int (xI y) :: .int (xI x) :: st) h Q ↔ xT d 0 148 (ls) (.int (xI (x + y)) :: st) h Q := xT_iadd (by decide +kernel) rfl
theorem r0_148 (x0 : 0 ≤ x) (x1 : x < g.1) (hL : g.1 ≤ 4000) : xT d 0 148 (ls) (.int (xI x) :: .ref 0 :: st) (hh f a g) Q ↔ xT d 0 149 (ls) (.int (xI (a 0 x)) :: st) (hh f a g) Q := xT_iaload (N := g.1) (by decide +kernel) rfl rfl (Nat.le_of_ble_eq_true rfl) x0 x1 hL
theorem r0_149 : xT d 0 149 (.ref ov :: ls) (st) h Q ↔ xT d 0 150 (.ref ov :: ls) (.ref ov :: st) h Q := xT_aload_n (k := 0) (by decide +kernel) rfl rfl
theorem r0_150 : xT d 0 150 (l0 :: l1 :: l2 :: l3 :: .int v :: ls) (st) h Q ↔ xT d 0 152 (l0 :: l1 :: l2 :: l3 :: .int v :: ls) (.int v :: st) h Q := xT_iload (k := 4) (by decide +kernel) rfl rfl
theorem r0_152 : xT d 0 152 (ls) (st) h Q ↔ xT d 0 153 (ls) (.int (xI 3) :: st) h Q := xT_iconst (n := 3) (by decide +kernel) rfl
theorem r0_153 : xT d 0 153 (ls) (.int (xI y) :: .int (xI x) :: st) h Q ↔ xT d 0 154 (ls) (.int (xI (x + y)) :: st) h Q := xT_iadd (by decide +kernel) rfl
theorem r0_154 (x0 : 0 ≤ x) (x1 : x < g.1) (hL : g.1 ≤ 4000) : xT d 0 154 (ls) (.int (xI x) :: .ref 0 :: st) (hh f a g) Q ↔ xT d 0 155 (ls) (.int (xI (a 0 x)) :: st) (hh f a g) Q := xT_iaload (N := g.1) (by decide +kernel) rfl rfl (Nat.le_of_ble_eq_true rfl) x0 x1 hL
theorem r0_155 {z0 : Int32} {z1 : Int32} {z2 : Int32} (hd : 1 ≤ d) : xT d 0 155 (ls) ([.int z0, .int z1, .int z2, .ref 21]) (hh f a g) Q ↔ xTC (d - 1) 140 [.ref 21, .int z2, .int z1, .int z0] (hh f a g) (xAf d 0 155 (ls) [] Q) := xT_virtual (k := 68) (na := 3) (ci := 8) (by decide +kernel) (by decide +kernel) (by decide +kernel) ⟨Nat.le_of_ble_eq_true rfl, Nat.le_of_ble_eq_true rfl⟩ rfl rfl (Nat.le_of_ble_eq_true rfl) rfl rfl ⟨Nat.le_of_ble_eq_true rfl, Nat.le_of_ble_eq_true rfl⟩ (Nat.le_of_ble_eq_true rfl) hd
theorem r0_158 : xT d 0 158 (l0 :: l1 :: .ref ov :: ls) (st) h Q ↔ xT d 0 159 (l0 :: l1 :: .ref ov :: ls) (.ref ov :: st) h Q := xT_aload_n (k := 2) (by decide +kernel) rfl rfl
theorem r0_159 (hd : 1 ≤ d) : xT d 0 159 (ls) ([.ref 21]) (hh f a g) Q ↔ xTC (d - 1) 118 [.ref 21] (hh f a g) (xAf d 0 159 (ls) [] Q) := xT_virtual (k := 69) (na := 0) (ci := 8) (by decide +kernel) (by decide +kernel) (by decide +kernel) ⟨Nat.le_of_ble_eq_true rfl, Nat.le_of_ble_eq_true rfl⟩ rfl rfl (Nat.le_of_ble_eq_true rfl) rfl rfl ⟨Nat.le_of_ble_eq_true rfl, Nat.le_of_ble_eq_true rfl⟩ (Nat.le_of_ble_eq_true rfl) hd
theorem r0_162 : xT d 0 162 (l0 :: l1 :: l2 :: l3 :: l4 :: .int v :: ls) (st) h Q ↔ xT d 0 164 (l0 :: l1 :: l2 :: l3 :: l4 :: .int v :: ls) (.int v :: st) h Q := xT_iload (k := 5) (by decide +kernel) rfl rfl
theorem r0_164 (x0 : -2147483648 ≤ x) (x1 : x ≤ 2147483647) (y0 : -2147483648 ≤ y) (y1 : y ≤ 2147483647) : xT d 0 164 (ls) (.int (xI y) :: .int (xI x) :: st) h Q ↔ (x = y → xT d 0 169 (ls) (st) h Q) ∧ (¬ x = y → xT d 0 167 (ls) (st) h Q) := xT_iceq (off := 5) (by decide +kernel) rfl rfl x0 x1 y0 y1
theorem r0_167 : xT d 0 167 (ls) (st) h Q ↔ xT d 0 168 (ls) (.int (xI 0) :: st) h Q := xT_iconst (n := 0) (by decide +kernel) rfl
theorem r0_168 (hx : x = 0 ∨ x = 1) : xT d 0 168 (ls) ([.int (xI x)]) h Q ↔ Q (h, .returned (some (.int (xI x)))) := xT_zreturn (by decide +kernel) rfl hx
theorem r0_169 : xT d 0 169 (ls) (st) h Q ↔ xT d 0 938 (ls) (st) h Q := xT_goto (off := 769) (by decide +kernel) rfl
theorem r0_172 : xT d 0 172 (l0 :: .ref ov :: ls) (st) h Q ↔ xT d 0 173 (l0 :: .ref ov :: ls) (.ref ov :: st) h Q := xT_aload_n (k := 1) (by decide +kernel) rfl rfl
theorem r0_173 : xT d 0 173 (.ref ov :: ls) (st) h Q ↔ xT d 0 174 (.ref ov :: ls) (.ref ov :: st) h Q := xT_aload_n (k := 0) (by decide +kernel) rfl rfl
theorem r0_174 : xT d 0 174 (l0 :: l1 :: l2 :: l3 :: .int v :: ls) (st) h Q ↔ xT d 0 176 (l0 :: l1 :: l2 :: l3 :: .int v :: ls) (.int v :: st) h Q := xT_iload (k := 4) (by decide +kernel) rfl rfl
theorem r0_176 : xT d 0 176 (ls) (st) h Q ↔ xT d 0 177 (ls) (.int (xI 1) :: st) h Q := xT_iconst (n := 1) (by decide +kernel) rfl
theorem r0_177 : xT d 0 177 (ls) (.int (xI y) :: .int (xI x) :: st) h Q ↔ xT d 0 178 (ls) (.int (xI (x + y)) :: st) h Q := xT_iadd (by decide +kernel) rfl
theorem r0_178 (x0 : 0 ≤ x) (x1 : x < g.1) (hL : g.1 ≤ 4000) : xT d 0 178 (ls) (.int (xI x) :: .ref 0 :: st) (hh f a g) Q ↔ xT d 0 179 (ls) (.int (xI (a 0 x)) :: st) (hh f a g) Q := xT_iaload (N := g.1) (by decide +kernel) rfl rfl (Nat.le_of_ble_eq_true rfl) x0 x1 hL
theorem r0_179 : xT d 0 179 (l0 :: l1 :: l2 :: .ref ov :: ls) (st) h Q ↔ xT d 0 180 (l0 :: l1 :: l2 :: .ref ov :: ls) (.ref ov :: st) h Q := xT_aload_n (k := 3) (by decide +kernel) rfl rfl
theorem r0_180 {z0 : Nat} {z1 : Int32} {z2 : Nat} (hd : 1 ≤ d) : xT d 0 180 (ls) ([.ref z0, .int z1, .ref z2]) h Q ↔ xTC (d - 1) 7 [.ref z2, .int z1, .ref z0] h (xAf d 0 180 (ls) [] Q) := xT_static (k := 73) (na := 3) (by decide +kernel) (by decide +kernel) ⟨Nat.le_of_ble_eq_true rfl, Nat.le_of_ble_eq_true rfl⟩ rfl rfl (Nat.le_of_ble_eq_true rfl) (Nat.le_of_ble_eq_true rfl) hd
theorem r0_183 : xT d 0 183 ([l0, l1, l2, l3, .int w, l5, l6]) (.int v :: st) h Q ↔ xT d 0 185 ([l0, l1, l2, l3, .int w, .int v, l6]) (st) h Q := xT_istore (k := 5) (by decide +kernel) rfl (Nat.le_of_ble_eq_true rfl) rfl
theorem r0_185 : xT d 0 185 (l0 :: l1 :: .ref ov :: ls) (st) h Q ↔ xT d 0 186 (l0 :: l1 :: .ref ov :: ls) (.ref ov :: st) h Q := xT_aload_n (k := 2) (by decide +kernel) rfl rfl
theorem r0_186 : xT d 0 186 (.ref ov :: ls) (st) h Q ↔ xT d 0 187 (.ref ov :: ls) (.ref ov :: st) h Q := xT_aload_n (k := 0) (by decide +kernel) rfl rfl
theorem r0_187 : xT d 0 187 (l0 :: l1 :: l2 :: l3 :: .int v :: ls) (st) h Q ↔ xT d 0 189 (l0 :: l1 :: l2 :: l3 :: .int v :: ls) (.int v :: st) h Q := xT_iload (k := 4) (by decide +kernel) rfl rfl
theorem r0_189 : xT d 0 189 (ls) (st) h Q ↔ xT d 0 190 (ls) (.int (xI 1) :: st) h Q := xT_iconst (n := 1) (by decide +kernel) rfl
theorem r0_190 : xT d 0 190 (ls) (.int (xI y) :: .int (xI x) :: st) h Q ↔ xT d 0 191 (ls) (.int (xI (x + y)) :: st) h Q := xT_iadd (by decide +kernel) rfl
theorem r0_191 (x0 : 0 ≤ x) (x1 : x < g.1) (hL : g.1 ≤ 4000) : xT d 0 191 (ls) (.int (xI x) :: .ref 0 :: st) (hh f a g) Q ↔ xT d 0 192 (ls) (.int (xI (a 0 x)) :: st) (hh f a g) Q := xT_iaload (N := g.1) (by decide +kernel) rfl rfl (Nat.le_of_ble_eq_true rfl) x0 x1 hL
theorem r0_192 {z0 : Int32} (hd : 1 ≤ d) : xT d 0 192 (ls) ([.int z0, .ref 21]) (hh f a g) Q ↔ xTC (d - 1) 151 [.ref 21, .int z0] (hh f a g) (xAf d 0 192 (ls) [] Q) := xT_virtual (k := 76) (na := 1) (ci := 8) (by decide +kernel) (by decide +kernel) (by decide +kernel) ⟨Nat.le_of_ble_eq_true rfl, Nat.le_of_ble_eq_true rfl⟩ rfl rfl (Nat.le_of_ble_eq_true rfl) rfl rfl ⟨Nat.le_of_ble_eq_true rfl, Nat.le_of_ble_eq_true rfl⟩ (Nat.le_of_ble_eq_true rfl) hd
theorem r0_195 : xT d 0 195 ([l0, l1, l2, l3, l4, .int w, l6]) (.int v :: st) h Q ↔ xT d 0 197 ([l0, l1, l2, l3, l4, .int w, .int v]) (st) h Q := xT_istore (k := 6) (by decide +kernel) rfl (Nat.le_of_ble_eq_true rfl) rfl
theorem r0_197 : xT d 0 197 (l0 :: l1 :: .ref ov :: ls) (st) h Q ↔ xT d 0 198 (l0 :: l1 :: .ref ov :: ls) (.ref ov :: st) h Q := xT_aload_n (k := 2) (by decide +kernel) rfl rfl
theorem r0_198 (hd : 1 ≤ d) : xT d 0 198 (ls) ([.ref 21]) (hh f a g) Q ↔ xTC (d - 1) 118 [.ref 21] (hh f a g) (xAf d 0 198 (ls) [] Q) := xT_virtual (k := 69) (na := 0) (ci := 8) (by decide +kernel) (by decide +kernel) (by decide +kernel) ⟨Nat.le_of_ble_eq_true rfl, Nat.le_of_ble_eq_true rfl⟩ rfl rfl (Nat.le_of_ble_eq_true rfl) rfl rfl ⟨Nat.le_of_ble_eq_true rfl, Nat.le_of_ble_eq_true rfl⟩ (Nat.le_of_ble_eq_true rfl) hd
theorem r0_201 : xT d 0 201 (l0 :: l1 :: l2 :: l3 :: l4 :: .int v :: ls) (st) h Q ↔ xT d 0 203 (l0 :: l1 :: l2 :: l3 :: l4 :: .int v :: ls) (.int v :: st) h Q := xT_iload (k := 5) (by decide +kernel) rfl rfl
theorem r0_203 (x0 : -2147483648 ≤ x) (x1 : x ≤ 2147483647) (y0 : -2147483648 ≤ y) (y1 : y ≤ 2147483647) : xT d 0 203 (ls) (.int (xI y) :: .int (xI x) :: st) h Q ↔ (x = y → xT d 0 208 (ls) (st) h Q) ∧ (¬ x = y → xT d 0 206 (ls) (st) h Q) := xT_iceq (off := 5) (by decide +kernel) rfl rfl x0 x1 y0 y1
theorem r0_206 : xT d 0 206 (ls) (st) h Q ↔ xT d 0 207 (ls) (.int (xI 0) :: st) h Q := xT_iconst (n := 0) (by decide +kernel) rfl
theorem r0_207 (hx : x = 0 ∨ x = 1) : xT d 0 207 (ls) ([.int (xI x)]) h Q ↔ Q (h, .returned (some (.int (xI x)))) := xT_zreturn (by decide +kernel) rfl hx
theorem r0_208 : xT d 0 208 (l0 :: l1 :: l2 :: l3 :: l4 :: .int v :: ls) (st) h Q ↔ xT d 0 210 (l0 :: l1 :: l2 :: l3 :: l4 :: .int v :: ls) (.int v :: st) h Q := xT_iload (k := 5) (by decide +kernel) rfl rfl
theorem r0_210 (x0 : -2147483648 ≤ x) (x1 : x ≤ 2147483647) : xT d 0 210 (ls) (.int (xI x) :: st) h Q ↔ (x = 0 → xT d 0 213 (ls) (st) h Q) ∧ (¬ x = 0 → xT d 0 225 (ls) (st) h Q) := xT_ifne (off := 15) (by decide +kernel) rfl rfl x0 x1
theorem r0_213 : xT d 0 213 (l0 :: l1 :: l2 :: .ref ov :: ls) (st) h Q ↔ xT d 0 214 (l0 :: l1 :: l2 :: .ref ov :: ls) (.ref ov :: st) h Q := xT_aload_n (k := 3) (by decide +kernel) rfl rfl
theorem r0_214 : xT d 0 214 (ls) (st) h Q ↔ xT d 0 215 (ls) (.int (xI 0) :: st) h Q := xT_iconst (n := 0) (by decide +kernel) rfl
theorem r0_216 : xT d 0 216 (l0 :: l1 :: l2 :: l3 :: l4 :: l5 :: .int v :: ls) (st) h Q ↔ xT d 0 218 (l0 :: l1 :: l2 :: l3 :: l4 :: l5 :: .int v :: ls) (.int v :: st) h Q := xT_iload (k := 6) (by decide +kernel) rfl rfl
theorem r0_218 : xT d 0 218 (ls) (.int v :: st) h Q ↔ xT d 0 219 (ls) (.long v.toInt64 :: st) h Q := xT_i2l (by decide +kernel) rfl
theorem r0_219 : xT d 0 219 (ls) (.long wl :: .long vl :: st) h Q ↔ xT d 0 220 (ls) (.int (lg_cmp vl wl) :: st) h Q := xT_lcmp (by decide +kernel) rfl
theorem r0_220 (x0 : -2147483648 ≤ x) (x1 : x ≤ 2147483647) : xT d 0 220 (ls) (.int (xI x) :: st) h Q ↔ (x = 0 → xT d 0 225 (ls) (st) h Q) ∧ (¬ x = 0 → xT d 0 223 (ls) (st) h Q) := xT_ifeq (off := 5) (by decide +kernel) rfl rfl x0 x1
theorem r0_223 : xT d 0 223 (ls) (st) h Q ↔ xT d 0 224 (ls) (.int (xI 0) :: st) h Q := xT_iconst (n := 0) (by decide +kernel) rfl
theorem r0_224 (hx : x = 0 ∨ x = 1) : xT d 0 224 (ls) ([.int (xI x)]) h Q ↔ Q (h, .returned (some (.int (xI x)))) := xT_zreturn (by decide +kernel) rfl hx
theorem r0_225 : xT d 0 225 (ls) (st) h Q ↔ xT d 0 938 (ls) (st) h Q := xT_goto (off := 713) (by decide +kernel) rfl
theorem r0_228 : xT d 0 228 (l0 :: .ref ov :: ls) (st) h Q ↔ xT d 0 229 (l0 :: .ref ov :: ls) (.ref ov :: st) h Q := xT_aload_n (k := 1) (by decide +kernel) rfl rfl
theorem r0_229 : xT d 0 229 (.ref ov :: ls) (st) h Q ↔ xT d 0 230 (.ref ov :: ls) (.ref ov :: st) h Q := xT_aload_n (k := 0) (by decide +kernel) rfl rfl
theorem r0_230 : xT d 0 230 (l0 :: l1 :: l2 :: l3 :: .int v :: ls) (st) h Q ↔ xT d 0 232 (l0 :: l1 :: l2 :: l3 :: .int v :: ls) (.int v :: st) h Q := xT_iload (k := 4) (by decide +kernel) rfl rfl
theorem r0_232 : xT d 0 232 (ls) (st) h Q ↔ xT d 0 233 (ls) (.int (xI 1) :: st) h Q := xT_iconst (n := 1) (by decide +kernel) rfl
theorem r0_233 : xT d 0 233 (ls) (.int (xI y) :: .int (xI x) :: st) h Q ↔ xT d 0 234 (ls) (.int (xI (x + y)) :: st) h Q := xT_iadd (by decide +kernel) rfl
theorem r0_234 (x0 : 0 ≤ x) (x1 : x < g.1) (hL : g.1 ≤ 4000) : xT d 0 234 (ls) (.int (xI x) :: .ref 0 :: st) (hh f a g) Q ↔ xT d 0 235 (ls) (.int (xI (a 0 x)) :: st) (hh f a g) Q := xT_iaload (N := g.1) (by decide +kernel) rfl rfl (Nat.le_of_ble_eq_true rfl) x0 x1 hL
theorem r0_235 : xT d 0 235 (.ref ov :: ls) (st) h Q ↔ xT d 0 236 (.ref ov :: ls) (.ref ov :: st) h Q := xT_aload_n (k := 0) (by decide +kernel) rfl rfl
theorem r0_236 : xT d 0 236 (l0 :: l1 :: l2 :: l3 :: .int v :: ls) (st) h Q ↔ xT d 0 238 (l0 :: l1 :: l2 :: l3 :: .int v :: ls) (.int v :: st) h Q := xT_iload (k := 4) (by decide +kernel) rfl rfl
theorem r0_238 : xT d 0 238 (ls) (st) h Q ↔ xT d 0 239 (ls) (.int (xI 2) :: st) h Q := xT_iconst (n := 2) (by decide +kernel) rfl
theorem r0_239 : xT d 0 239 (ls) (.int (xI y) :: .int (xI x) :: st) h Q ↔ xT d 0 240 (ls) (.int (xI (x + y)) :: st) h Q := xT_iadd (by decide +kernel) rfl
theorem r0_240 (x0 : 0 ≤ x) (x1 : x < g.1) (hL : g.1 ≤ 4000) : xT d 0 240 (ls) (.int (xI x) :: .ref 0 :: st) (hh f a g) Q ↔ xT d 0 241 (ls) (.int (xI (a 0 x)) :: st) (hh f a g) Q := xT_iaload (N := g.1) (by decide +kernel) rfl rfl (Nat.le_of_ble_eq_true rfl) x0 x1 hL
theorem r0_241 : xT d 0 241 (.ref ov :: ls) (st) h Q ↔ xT d 0 242 (.ref ov :: ls) (.ref ov :: st) h Q := xT_aload_n (k := 0) (by decide +kernel) rfl rfl
theorem r0_242 : xT d 0 242 (l0 :: l1 :: l2 :: l3 :: .int v :: ls) (st) h Q ↔ xT d 0 244 (l0 :: l1 :: l2 :: l3 :: .int v :: ls) (.int v :: st) h Q := xT_iload (k := 4) (by decide +kernel) rfl rfl
theorem r0_244 : xT d 0 244 (ls) (st) h Q ↔ xT d 0 245 (ls) (.int (xI 3) :: st) h Q := xT_iconst (n := 3) (by decide +kernel) rfl
theorem r0_245 : xT d 0 245 (ls) (.int (xI y) :: .int (xI x) :: st) h Q ↔ xT d 0 246 (ls) (.int (xI (x + y)) :: st) h Q := xT_iadd (by decide +kernel) rfl
theorem r0_246 (x0 : 0 ≤ x) (x1 : x < g.1) (hL : g.1 ≤ 4000) : xT d 0 246 (ls) (.int (xI x) :: .ref 0 :: st) (hh f a g) Q ↔ xT d 0 247 (ls) (.int (xI (a 0 x)) :: st) (hh f a g) Q := xT_iaload (N := g.1) (by decide +kernel) rfl rfl (Nat.le_of_ble_eq_true rfl) x0 x1 hL
theorem r0_247 : xT d 0 247 (.ref ov :: ls) (st) h Q ↔ xT d 0 248 (.ref ov :: ls) (.ref ov :: st) h Q := xT_aload_n (k := 0) (by decide +kernel) rfl rfl
theorem r0_248 : xT d 0 248 (l0 :: l1 :: l2 :: l3 :: .int v :: ls) (st) h Q ↔ xT d 0 250 (l0 :: l1 :: l2 :: l3 :: .int v :: ls) (.int v :: st) h Q := xT_iload (k := 4) (by decide +kernel) rfl rfl
theorem r0_250 : xT d 0 250 (ls) (st) h Q ↔ xT d 0 251 (ls) (.int (xI 4) :: st) h Q := xT_iconst (n := 4) (by decide +kernel) rfl
theorem r0_251 : xT d 0 251 (ls) (.int (xI y) :: .int (xI x) :: st) h Q ↔ xT d 0 252 (ls) (.int (xI (x + y)) :: st) h Q := xT_iadd (by decide +kernel) rfl
theorem r0_252 (x0 : 0 ≤ x) (x1 : x < g.1) (hL : g.1 ≤ 4000) : xT d 0 252 (ls) (.int (xI x) :: .ref 0 :: st) (hh f a g) Q ↔ xT d 0 253 (ls) (.int (xI (a 0 x)) :: st) (hh f a g) Q := xT_iaload (N := g.1) (by decide +kernel) rfl rfl (Nat.le_of_ble_eq_true rfl) x0 x1 hL
theorem r0_253 : xT d 0 253 (.ref ov :: ls) (st) h Q ↔ xT d 0 254 (.ref ov :: ls) (.ref ov :: st) h Q := xT_aload_n (k := 0) (by decide +kernel) rfl rfl
theorem r0_254 : xT d 0 254 (l0 :: l1 :: l2 :: l3 :: .int v :: ls) (st) h Q ↔ xT d 0 256 (l0 :: l1 :: l2 :: l3 :: .int v :: ls) (.int v :: st) h Q := xT_iload (k := 4) (by decide +kernel) rfl rfl
theorem r0_256 : xT d 0 256 (ls) (st) h Q ↔ xT d 0 257 (ls) (.int (xI 5) :: st) h Q := xT_iconst (n := 5) (by decide +kernel) rfl
theorem r0_257 : xT d 0 257 (ls) (.int (xI y) :: .int (xI x) :: st) h Q ↔ xT d 0 258 (ls) (.int (xI (x + y)) :: st) h Q := xT_iadd (by decide +kernel) rfl
theorem r0_258 (x0 : 0 ≤ x) (x1 : x < g.1) (hL : g.1 ≤ 4000) : xT d 0 258 (ls) (.int (xI x) :: .ref 0 :: st) (hh f a g) Q ↔ xT d 0 259 (ls) (.int (xI (a 0 x)) :: st) (hh f a g) Q := xT_iaload (N := g.1) (by decide +kernel) rfl rfl (Nat.le_of_ble_eq_true rfl) x0 x1 hL
theorem r0_259 : xT d 0 259 (l0 :: l1 :: l2 :: .ref ov :: ls) (st) h Q ↔ xT d 0 260 (l0 :: l1 :: l2 :: .ref ov :: ls) (.ref ov :: st) h Q := xT_aload_n (k := 3) (by decide +kernel) rfl rfl
theorem r0_260 {z0 : Nat} {z1 : Int32} {z2 : Int32} {z3 : Int32} {z4 : Int32} {z5 : Int32} {z6 : Nat} (hd : 1 ≤ d) : xT d 0 260 (ls) ([.ref z0, .int z1, .int z2, .int z3, .int z4, .int z5, .ref z6]) h Q ↔ xTC (d - 1) 8 [.ref z6, .int z5, .int z4, .int z3, .int z2, .int z1, .ref z0] h (xAf d 0 260 (ls) [] Q) := xT_static (k := 77) (na := 7) (by decide +kernel) (by decide +kernel) ⟨Nat.le_of_ble_eq_true rfl, Nat.le_of_ble_eq_true rfl⟩ rfl rfl (Nat.le_of_ble_eq_true rfl) (Nat.le_of_ble_eq_true rfl) hd
theorem r0_263 : xT d 0 263 ([l0, l1, l2, l3, .int w, l5, l6]) (.int v :: st) h Q ↔ xT d 0 265 ([l0, l1, l2, l3, .int w, .int v, l6]) (st) h Q := xT_istore (k := 5) (by decide +kernel) rfl (Nat.le_of_ble_eq_true rfl) rfl
theorem r0_265 : xT d 0 265 (l0 :: l1 :: .ref ov :: ls) (st) h Q ↔ xT d 0 266 (l0 :: l1 :: .ref ov :: ls) (.ref ov :: st) h Q := xT_aload_n (k := 2) (by decide +kernel) rfl rfl
theorem r0_266 : xT d 0 266 (.ref ov :: ls) (st) h Q ↔ xT d 0 267 (.ref ov :: ls) (.ref ov :: st) h Q := xT_aload_n (k := 0) (by decide +kernel) rfl rfl
theorem r0_267 : xT d 0 267 (l0 :: l1 :: l2 :: l3 :: .int v :: ls) (st) h Q ↔ xT d 0 269 (l0 :: l1 :: l2 :: l3 :: .int v :: ls) (.int v :: st) h Q := xT_iload (k := 4) (by decide +kernel) rfl rfl
theorem r0_269 : xT d 0 269 (ls) (st) h Q ↔ xT d 0 270 (ls) (.int (xI 1) :: st) h Q := xT_iconst (n := 1) (by decide +kernel) rfl
theorem r0_270 : xT d 0 270 (ls) (.int (xI y) :: .int (xI x) :: st) h Q ↔ xT d 0 271 (ls) (.int (xI (x + y)) :: st) h Q := xT_iadd (by decide +kernel) rfl
theorem r0_271 (x0 : 0 ≤ x) (x1 : x < g.1) (hL : g.1 ≤ 4000) : xT d 0 271 (ls) (.int (xI x) :: .ref 0 :: st) (hh f a g) Q ↔ xT d 0 272 (ls) (.int (xI (a 0 x)) :: st) (hh f a g) Q := xT_iaload (N := g.1) (by decide +kernel) rfl rfl (Nat.le_of_ble_eq_true rfl) x0 x1 hL
theorem r0_272 : xT d 0 272 (.ref ov :: ls) (st) h Q ↔ xT d 0 273 (.ref ov :: ls) (.ref ov :: st) h Q := xT_aload_n (k := 0) (by decide +kernel) rfl rfl
theorem r0_273 : xT d 0 273 (l0 :: l1 :: l2 :: l3 :: .int v :: ls) (st) h Q ↔ xT d 0 275 (l0 :: l1 :: l2 :: l3 :: .int v :: ls) (.int v :: st) h Q := xT_iload (k := 4) (by decide +kernel) rfl rfl
theorem r0_275 : xT d 0 275 (ls) (st) h Q ↔ xT d 0 276 (ls) (.int (xI 2) :: st) h Q := xT_iconst (n := 2) (by decide +kernel) rfl
theorem r0_276 : xT d 0 276 (ls) (.int (xI y) :: .int (xI x) :: st) h Q ↔ xT d 0 277 (ls) (.int (xI (x + y)) :: st) h Q := xT_iadd (by decide +kernel) rfl
theorem r0_277 (x0 : 0 ≤ x) (x1 : x < g.1) (hL : g.1 ≤ 4000) : xT d 0 277 (ls) (.int (xI x) :: .ref 0 :: st) (hh f a g) Q ↔ xT d 0 278 (ls) (.int (xI (a 0 x)) :: st) (hh f a g) Q := xT_iaload (N := g.1) (by decide +kernel) rfl rfl (Nat.le_of_ble_eq_true rfl) x0 x1 hL
theorem r0_278 : xT d 0 278 (.ref ov :: ls) (st) h Q ↔ xT d 0 279 (.ref ov :: ls) (.ref ov :: st) h Q := xT_aload_n (k := 0) (by decide +kernel) rfl rfl
theorem r0_279 : xT d 0 279 (l0 :: l1 :: l2 :: l3 :: .int v :: ls) (st) h Q ↔ xT d 0 281 (l0 :: l1 :: l2 :: l3 :: .int v :: ls) (.int v :: st) h Q := xT_iload (k := 4) (by decide +kernel) rfl rfl
theorem r0_281 : xT d 0 281 (ls) (st) h Q ↔ xT d 0 282 (ls) (.int (xI 3) :: st) h Q := xT_iconst (n := 3) (by decide +kernel) rfl
theorem r0_282 : xT d 0 282 (ls) (.int (xI y) :: .int (xI x) :: st) h Q ↔ xT d 0 283 (ls) (.int (xI (x + y)) :: st) h Q := xT_iadd (by decide +kernel) rfl
theorem r0_283 (x0 : 0 ≤ x) (x1 : x < g.1) (hL : g.1 ≤ 4000) : xT d 0 283 (ls) (.int (xI x) :: .ref 0 :: st) (hh f a g) Q ↔ xT d 0 284 (ls) (.int (xI (a 0 x)) :: st) (hh f a g) Q := xT_iaload (N := g.1) (by decide +kernel) rfl rfl (Nat.le_of_ble_eq_true rfl) x0 x1 hL
theorem r0_284 : xT d 0 284 (.ref ov :: ls) (st) h Q ↔ xT d 0 285 (.ref ov :: ls) (.ref ov :: st) h Q := xT_aload_n (k := 0) (by decide +kernel) rfl rfl
theorem r0_285 : xT d 0 285 (l0 :: l1 :: l2 :: l3 :: .int v :: ls) (st) h Q ↔ xT d 0 287 (l0 :: l1 :: l2 :: l3 :: .int v :: ls) (.int v :: st) h Q := xT_iload (k := 4) (by decide +kernel) rfl rfl
theorem r0_287 : xT d 0 287 (ls) (st) h Q ↔ xT d 0 288 (ls) (.int (xI 4) :: st) h Q := xT_iconst (n := 4) (by decide +kernel) rfl
theorem r0_288 : xT d 0 288 (ls) (.int (xI y) :: .int (xI x) :: st) h Q ↔ xT d 0 289 (ls) (.int (xI (x + y)) :: st) h Q := xT_iadd (by decide +kernel) rfl
theorem r0_289 (x0 : 0 ≤ x) (x1 : x < g.1) (hL : g.1 ≤ 4000) : xT d 0 289 (ls) (.int (xI x) :: .ref 0 :: st) (hh f a g) Q ↔ xT d 0 290 (ls) (.int (xI (a 0 x)) :: st) (hh f a g) Q := xT_iaload (N := g.1) (by decide +kernel) rfl rfl (Nat.le_of_ble_eq_true rfl) x0 x1 hL
theorem r0_290 : xT d 0 290 (.ref ov :: ls) (st) h Q ↔ xT d 0 291 (.ref ov :: ls) (.ref ov :: st) h Q := xT_aload_n (k := 0) (by decide +kernel) rfl rfl
theorem r0_291 : xT d 0 291 (l0 :: l1 :: l2 :: l3 :: .int v :: ls) (st) h Q ↔ xT d 0 293 (l0 :: l1 :: l2 :: l3 :: .int v :: ls) (.int v :: st) h Q := xT_iload (k := 4) (by decide +kernel) rfl rfl
theorem r0_293 : xT d 0 293 (ls) (st) h Q ↔ xT d 0 294 (ls) (.int (xI 5) :: st) h Q := xT_iconst (n := 5) (by decide +kernel) rfl
theorem r0_294 : xT d 0 294 (ls) (.int (xI y) :: .int (xI x) :: st) h Q ↔ xT d 0 295 (ls) (.int (xI (x + y)) :: st) h Q := xT_iadd (by decide +kernel) rfl
theorem r0_295 (x0 : 0 ≤ x) (x1 : x < g.1) (hL : g.1 ≤ 4000) : xT d 0 295 (ls) (.int (xI x) :: .ref 0 :: st) (hh f a g) Q ↔ xT d 0 296 (ls) (.int (xI (a 0 x)) :: st) (hh f a g) Q := xT_iaload (N := g.1) (by decide +kernel) rfl rfl (Nat.le_of_ble_eq_true rfl) x0 x1 hL
theorem r0_296 {z0 : Int32} {z1 : Int32} {z2 : Int32} {z3 : Int32} {z4 : Int32} (hd : 1 ≤ d) : xT d 0 296 (ls) ([.int z0, .int z1, .int z2, .int z3, .int z4, .ref 21]) (hh f a g) Q ↔ xTC (d - 1) 160 [.ref 21, .int z4, .int z3, .int z2, .int z1, .int z0] (hh f a g) (xAf d 0 296 (ls) [] Q) := xT_virtual (k := 80) (na := 5) (ci := 8) (by decide +kernel) (by decide +kernel) (by decide +kernel) ⟨Nat.le_of_ble_eq_true rfl, Nat.le_of_ble_eq_true rfl⟩ rfl rfl (Nat.le_of_ble_eq_true rfl) rfl rfl ⟨Nat.le_of_ble_eq_true rfl, Nat.le_of_ble_eq_true rfl⟩ (Nat.le_of_ble_eq_true rfl) hd
theorem r0_299 : xT d 0 299 ([l0, l1, l2, l3, l4, .int w, l6]) (.int v :: st) h Q ↔ xT d 0 301 ([l0, l1, l2, l3, l4, .int w, .int v]) (st) h Q := xT_istore (k := 6) (by decide +kernel) rfl (Nat.le_of_ble_eq_true rfl) rfl
theorem r0_301 : xT d 0 301 (l0 :: l1 :: .ref ov :: ls) (st) h Q ↔ xT d 0 302 (l0 :: l1 :: .ref ov :: ls) (.ref ov :: st) h Q := xT_aload_n (k := 2) (by decide +kernel) rfl rfl
theorem r0_302 (hd : 1 ≤ d) : xT d 0 302 (ls) ([.ref 21]) (hh f a g) Q ↔ xTC (d - 1) 118 [.ref 21] (hh f a g) (xAf d 0 302 (ls) [] Q) := xT_virtual (k := 69) (na := 0) (ci := 8) (by decide +kernel) (by decide +kernel) (by decide +kernel) ⟨Nat.le_of_ble_eq_true rfl, Nat.le_of_ble_eq_true rfl⟩ rfl rfl (Nat.le_of_ble_eq_true rfl) rfl rfl ⟨Nat.le_of_ble_eq_true rfl, Nat.le_of_ble_eq_true rfl⟩ (Nat.le_of_ble_eq_true rfl) hd
theorem r0_305 : xT d 0 305 (l0 :: l1 :: l2 :: l3 :: l4 :: .int v :: ls) (st) h Q ↔ xT d 0 307 (l0 :: l1 :: l2 :: l3 :: l4 :: .int v :: ls) (.int v :: st) h Q := xT_iload (k := 5) (by decide +kernel) rfl rfl
theorem r0_307 (x0 : -2147483648 ≤ x) (x1 : x ≤ 2147483647) (y0 : -2147483648 ≤ y) (y1 : y ≤ 2147483647) : xT d 0 307 (ls) (.int (xI y) :: .int (xI x) :: st) h Q ↔ (x = y → xT d 0 312 (ls) (st) h Q) ∧ (¬ x = y → xT d 0 310 (ls) (st) h Q) := xT_iceq (off := 5) (by decide +kernel) rfl rfl x0 x1 y0 y1
theorem r0_310 : xT d 0 310 (ls) (st) h Q ↔ xT d 0 311 (ls) (.int (xI 0) :: st) h Q := xT_iconst (n := 0) (by decide +kernel) rfl
theorem r0_311 (hx : x = 0 ∨ x = 1) : xT d 0 311 (ls) ([.int (xI x)]) h Q ↔ Q (h, .returned (some (.int (xI x)))) := xT_zreturn (by decide +kernel) rfl hx
theorem r0_312 : xT d 0 312 (l0 :: l1 :: l2 :: l3 :: l4 :: .int v :: ls) (st) h Q ↔ xT d 0 314 (l0 :: l1 :: l2 :: l3 :: l4 :: .int v :: ls) (.int v :: st) h Q := xT_iload (k := 5) (by decide +kernel) rfl rfl
theorem r0_314 (x0 : -2147483648 ≤ x) (x1 : x ≤ 2147483647) : xT d 0 314 (ls) (.int (xI x) :: st) h Q ↔ (x = 0 → xT d 0 317 (ls) (st) h Q) ∧ (¬ x = 0 → xT d 0 329 (ls) (st) h Q) := xT_ifne (off := 15) (by decide +kernel) rfl rfl x0 x1
theorem r0_317 : xT d 0 317 (l0 :: l1 :: l2 :: .ref ov :: ls) (st) h Q ↔ xT d 0 318 (l0 :: l1 :: l2 :: .ref ov :: ls) (.ref ov :: st) h Q := xT_aload_n (k := 3) (by decide +kernel) rfl rfl
theorem r0_318 : xT d 0 318 (ls) (st) h Q ↔ xT d 0 319 (ls) (.int (xI 0) :: st) h Q := xT_iconst (n := 0) (by decide +kernel) rfl
theorem r0_320 : xT d 0 320 (l0 :: l1 :: l2 :: l3 :: l4 :: l5 :: .int v :: ls) (st) h Q ↔ xT d 0 322 (l0 :: l1 :: l2 :: l3 :: l4 :: l5 :: .int v :: ls) (.int v :: st) h Q := xT_iload (k := 6) (by decide +kernel) rfl rfl
theorem r0_322 : xT d 0 322 (ls) (.int v :: st) h Q ↔ xT d 0 323 (ls) (.long v.toInt64 :: st) h Q := xT_i2l (by decide +kernel) rfl
theorem r0_323 : xT d 0 323 (ls) (.long wl :: .long vl :: st) h Q ↔ xT d 0 324 (ls) (.int (lg_cmp vl wl) :: st) h Q := xT_lcmp (by decide +kernel) rfl
theorem r0_324 (x0 : -2147483648 ≤ x) (x1 : x ≤ 2147483647) : xT d 0 324 (ls) (.int (xI x) :: st) h Q ↔ (x = 0 → xT d 0 329 (ls) (st) h Q) ∧ (¬ x = 0 → xT d 0 327 (ls) (st) h Q) := xT_ifeq (off := 5) (by decide +kernel) rfl rfl x0 x1
theorem r0_327 : xT d 0 327 (ls) (st) h Q ↔ xT d 0 328 (ls) (.int (xI 0) :: st) h Q := xT_iconst (n := 0) (by decide +kernel) rfl
theorem r0_328 (hx : x = 0 ∨ x = 1) : xT d 0 328 (ls) ([.int (xI x)]) h Q ↔ Q (h, .returned (some (.int (xI x)))) := xT_zreturn (by decide +kernel) rfl hx
theorem r0_329 : xT d 0 329 (ls) (st) h Q ↔ xT d 0 938 (ls) (st) h Q := xT_goto (off := 609) (by decide +kernel) rfl
theorem r0_332 : xT d 0 332 (l0 :: .ref ov :: ls) (st) h Q ↔ xT d 0 333 (l0 :: .ref ov :: ls) (.ref ov :: st) h Q := xT_aload_n (k := 1) (by decide +kernel) rfl rfl
theorem r0_333 : xT d 0 333 (.ref ov :: ls) (st) h Q ↔ xT d 0 334 (.ref ov :: ls) (.ref ov :: st) h Q := xT_aload_n (k := 0) (by decide +kernel) rfl rfl
theorem r0_334 : xT d 0 334 (l0 :: l1 :: l2 :: l3 :: .int v :: ls) (st) h Q ↔ xT d 0 336 (l0 :: l1 :: l2 :: l3 :: .int v :: ls) (.int v :: st) h Q := xT_iload (k := 4) (by decide +kernel) rfl rfl
theorem r0_336 : xT d 0 336 (ls) (st) h Q ↔ xT d 0 337 (ls) (.int (xI 1) :: st) h Q := xT_iconst (n := 1) (by decide +kernel) rfl
theorem r0_337 : xT d 0 337 (ls) (.int (xI y) :: .int (xI x) :: st) h Q ↔ xT d 0 338 (ls) (.int (xI (x + y)) :: st) h Q := xT_iadd (by decide +kernel) rfl
theorem r0_338 (x0 : 0 ≤ x) (x1 : x < g.1) (hL : g.1 ≤ 4000) : xT d 0 338 (ls) (.int (xI x) :: .ref 0 :: st) (hh f a g) Q ↔ xT d 0 339 (ls) (.int (xI (a 0 x)) :: st) (hh f a g) Q := xT_iaload (N := g.1) (by decide +kernel) rfl rfl (Nat.le_of_ble_eq_true rfl) x0 x1 hL
theorem r0_339 : xT d 0 339 (.ref ov :: ls) (st) h Q ↔ xT d 0 340 (.ref ov :: ls) (.ref ov :: st) h Q := xT_aload_n (k := 0) (by decide +kernel) rfl rfl
theorem r0_340 : xT d 0 340 (l0 :: l1 :: l2 :: l3 :: .int v :: ls) (st) h Q ↔ xT d 0 342 (l0 :: l1 :: l2 :: l3 :: .int v :: ls) (.int v :: st) h Q := xT_iload (k := 4) (by decide +kernel) rfl rfl
theorem r0_342 : xT d 0 342 (ls) (st) h Q ↔ xT d 0 343 (ls) (.int (xI 2) :: st) h Q := xT_iconst (n := 2) (by decide +kernel) rfl
theorem r0_343 : xT d 0 343 (ls) (.int (xI y) :: .int (xI x) :: st) h Q ↔ xT d 0 344 (ls) (.int (xI (x + y)) :: st) h Q := xT_iadd (by decide +kernel) rfl
theorem r0_344 (x0 : 0 ≤ x) (x1 : x < g.1) (hL : g.1 ≤ 4000) : xT d 0 344 (ls) (.int (xI x) :: .ref 0 :: st) (hh f a g) Q ↔ xT d 0 345 (ls) (.int (xI (a 0 x)) :: st) (hh f a g) Q := xT_iaload (N := g.1) (by decide +kernel) rfl rfl (Nat.le_of_ble_eq_true rfl) x0 x1 hL
theorem r0_345 : xT d 0 345 (.ref ov :: ls) (st) h Q ↔ xT d 0 346 (.ref ov :: ls) (.ref ov :: st) h Q := xT_aload_n (k := 0) (by decide +kernel) rfl rfl
theorem r0_346 : xT d 0 346 (l0 :: l1 :: l2 :: l3 :: .int v :: ls) (st) h Q ↔ xT d 0 348 (l0 :: l1 :: l2 :: l3 :: .int v :: ls) (.int v :: st) h Q := xT_iload (k := 4) (by decide +kernel) rfl rfl
theorem r0_348 : xT d 0 348 (ls) (st) h Q ↔ xT d 0 349 (ls) (.int (xI 3) :: st) h Q := xT_iconst (n := 3) (by decide +kernel) rfl
theorem r0_349 : xT d 0 349 (ls) (.int (xI y) :: .int (xI x) :: st) h Q ↔ xT d 0 350 (ls) (.int (xI (x + y)) :: st) h Q := xT_iadd (by decide +kernel) rfl
theorem r0_350 (x0 : 0 ≤ x) (x1 : x < g.1) (hL : g.1 ≤ 4000) : xT d 0 350 (ls) (.int (xI x) :: .ref 0 :: st) (hh f a g) Q ↔ xT d 0 351 (ls) (.int (xI (a 0 x)) :: st) (hh f a g) Q := xT_iaload (N := g.1) (by decide +kernel) rfl rfl (Nat.le_of_ble_eq_true rfl) x0 x1 hL
theorem r0_351 : xT d 0 351 (.ref ov :: ls) (st) h Q ↔ xT d 0 352 (.ref ov :: ls) (.ref ov :: st) h Q := xT_aload_n (k := 0) (by decide +kernel) rfl rfl
theorem r0_352 : xT d 0 352 (l0 :: l1 :: l2 :: l3 :: .int v :: ls) (st) h Q ↔ xT d 0 354 (l0 :: l1 :: l2 :: l3 :: .int v :: ls) (.int v :: st) h Q := xT_iload (k := 4) (by decide +kernel) rfl rfl
theorem r0_354 : xT d 0 354 (ls) (st) h Q ↔ xT d 0 355 (ls) (.int (xI 4) :: st) h Q := xT_iconst (n := 4) (by decide +kernel) rfl
theorem r0_355 : xT d 0 355 (ls) (.int (xI y) :: .int (xI x) :: st) h Q ↔ xT d 0 356 (ls) (.int (xI (x + y)) :: st) h Q := xT_iadd (by decide +kernel) rfl
theorem r0_356 (x0 : 0 ≤ x) (x1 : x < g.1) (hL : g.1 ≤ 4000) : xT d 0 356 (ls) (.int (xI x) :: .ref 0 :: st) (hh f a g) Q ↔ xT d 0 357 (ls) (.int (xI (a 0 x)) :: st) (hh f a g) Q := xT_iaload (N := g.1) (by decide +kernel) rfl rfl (Nat.le_of_ble_eq_true rfl) x0 x1 hL
theorem r0_357 : xT d 0 357 (l0 :: l1 :: l2 :: .ref ov :: ls) (st) h Q ↔ xT d 0 358 (l0 :: l1 :: l2 :: .ref ov :: ls) (.ref ov :: st) h Q := xT_aload_n (k := 3) (by decide +kernel) rfl rfl
theorem r0_358 {z0 : Nat} {z1 : Int32} {z2 : Int32} {z3 : Int32} {z4 : Int32} {z5 : Nat} (hd : 1 ≤ d) : xT d 0 358 (ls) ([.ref z0, .int z1, .int z2, .int z3, .int z4, .ref z5]) h Q ↔ xTC (d - 1) 9 [.ref z5, .int z4, .int z3, .int z2, .int z1, .ref z0] h (xAf d 0 358 (ls) [] Q) := xT_static (k := 81) (na := 6) (by decide +kernel) (by decide +kernel) ⟨Nat.le_of_ble_eq_true rfl, Nat.le_of_ble_eq_true rfl⟩ rfl rfl (Nat.le_of_ble_eq_true rfl) (Nat.le_of_ble_eq_true rfl) hd
theorem r0_361 : xT d 0 361 ([l0, l1, l2, l3, .int w, l5, l6]) (.int v :: st) h Q ↔ xT d 0 363 ([l0, l1, l2, l3, .int w, .int v, l6]) (st) h Q := xT_istore (k := 5) (by decide +kernel) rfl (Nat.le_of_ble_eq_true rfl) rfl
theorem r0_363 : xT d 0 363 (l0 :: l1 :: .ref ov :: ls) (st) h Q ↔ xT d 0 364 (l0 :: l1 :: .ref ov :: ls) (.ref ov :: st) h Q := xT_aload_n (k := 2) (by decide +kernel) rfl rfl
theorem r0_364 : xT d 0 364 (.ref ov :: ls) (st) h Q ↔ xT d 0 365 (.ref ov :: ls) (.ref ov :: st) h Q := xT_aload_n (k := 0) (by decide +kernel) rfl rfl
theorem r0_365 : xT d 0 365 (l0 :: l1 :: l2 :: l3 :: .int v :: ls) (st) h Q ↔ xT d 0 367 (l0 :: l1 :: l2 :: l3 :: .int v :: ls) (.int v :: st) h Q := xT_iload (k := 4) (by decide +kernel) rfl rfl
theorem r0_367 : xT d 0 367 (ls) (st) h Q ↔ xT d 0 368 (ls) (.int (xI 1) :: st) h Q := xT_iconst (n := 1) (by decide +kernel) rfl
theorem r0_368 : xT d 0 368 (ls) (.int (xI y) :: .int (xI x) :: st) h Q ↔ xT d 0 369 (ls) (.int (xI (x + y)) :: st) h Q := xT_iadd (by decide +kernel) rfl
theorem r0_369 (x0 : 0 ≤ x) (x1 : x < g.1) (hL : g.1 ≤ 4000) : xT d 0 369 (ls) (.int (xI x) :: .ref 0 :: st) (hh f a g) Q ↔ xT d 0 370 (ls) (.int (xI (a 0 x)) :: st) (hh f a g) Q := xT_iaload (N := g.1) (by decide +kernel) rfl rfl (Nat.le_of_ble_eq_true rfl) x0 x1 hL
theorem r0_370 : xT d 0 370 (.ref ov :: ls) (st) h Q ↔ xT d 0 371 (.ref ov :: ls) (.ref ov :: st) h Q := xT_aload_n (k := 0) (by decide +kernel) rfl rfl
theorem r0_371 : xT d 0 371 (l0 :: l1 :: l2 :: l3 :: .int v :: ls) (st) h Q ↔ xT d 0 373 (l0 :: l1 :: l2 :: l3 :: .int v :: ls) (.int v :: st) h Q := xT_iload (k := 4) (by decide +kernel) rfl rfl
theorem r0_373 : xT d 0 373 (ls) (st) h Q ↔ xT d 0 374 (ls) (.int (xI 2) :: st) h Q := xT_iconst (n := 2) (by decide +kernel) rfl
theorem r0_374 : xT d 0 374 (ls) (.int (xI y) :: .int (xI x) :: st) h Q ↔ xT d 0 375 (ls) (.int (xI (x + y)) :: st) h Q := xT_iadd (by decide +kernel) rfl
theorem r0_375 (x0 : 0 ≤ x) (x1 : x < g.1) (hL : g.1 ≤ 4000) : xT d 0 375 (ls) (.int (xI x) :: .ref 0 :: st) (hh f a g) Q ↔ xT d 0 376 (ls) (.int (xI (a 0 x)) :: st) (hh f a g) Q := xT_iaload (N := g.1) (by decide +kernel) rfl rfl (Nat.le_of_ble_eq_true rfl) x0 x1 hL
theorem r0_376 : xT d 0 376 (.ref ov :: ls) (st) h Q ↔ xT d 0 377 (.ref ov :: ls) (.ref ov :: st) h Q := xT_aload_n (k := 0) (by decide +kernel) rfl rfl
theorem r0_377 : xT d 0 377 (l0 :: l1 :: l2 :: l3 :: .int v :: ls) (st) h Q ↔ xT d 0 379 (l0 :: l1 :: l2 :: l3 :: .int v :: ls) (.int v :: st) h Q := xT_iload (k := 4) (by decide +kernel) rfl rfl
theorem r0_379 : xT d 0 379 (ls) (st) h Q ↔ xT d 0 380 (ls) (.int (xI 3) :: st) h Q := xT_iconst (n := 3) (by decide +kernel) rfl
theorem r0_380 : xT d 0 380 (ls) (.int (xI y) :: .int (xI x) :: st) h Q ↔ xT d 0 381 (ls) (.int (xI (x + y)) :: st) h Q := xT_iadd (by decide +kernel) rfl
theorem r0_381 (x0 : 0 ≤ x) (x1 : x < g.1) (hL : g.1 ≤ 4000) : xT d 0 381 (ls) (.int (xI x) :: .ref 0 :: st) (hh f a g) Q ↔ xT d 0 382 (ls) (.int (xI (a 0 x)) :: st) (hh f a g) Q := xT_iaload (N := g.1) (by decide +kernel) rfl rfl (Nat.le_of_ble_eq_true rfl) x0 x1 hL
theorem r0_382 : xT d 0 382 (.ref ov :: ls) (st) h Q ↔ xT d 0 383 (.ref ov :: ls) (.ref ov :: st) h Q := xT_aload_n (k := 0) (by decide +kernel) rfl rfl
theorem r0_383 : xT d 0 383 (l0 :: l1 :: l2 :: l3 :: .int v :: ls) (st) h Q ↔ xT d 0 385 (l0 :: l1 :: l2 :: l3 :: .int v :: ls) (.int v :: st) h Q := xT_iload (k := 4) (by decide +kernel) rfl rfl
theorem r0_385 : xT d 0 385 (ls) (st) h Q ↔ xT d 0 386 (ls) (.int (xI 4) :: st) h Q := xT_iconst (n := 4) (by decide +kernel) rfl
theorem r0_386 : xT d 0 386 (ls) (.int (xI y) :: .int (xI x) :: st) h Q ↔ xT d 0 387 (ls) (.int (xI (x + y)) :: st) h Q := xT_iadd (by decide +kernel) rfl
theorem r0_387 (x0 : 0 ≤ x) (x1 : x < g.1) (hL : g.1 ≤ 4000) : xT d 0 387 (ls) (.int (xI x) :: .ref 0 :: st) (hh f a g) Q ↔ xT d 0 388 (ls) (.int (xI (a 0 x)) :: st) (hh f a g) Q := xT_iaload (N := g.1) (by decide +kernel) rfl rfl (Nat.le_of_ble_eq_true rfl) x0 x1 hL
theorem r0_388 {z0 : Int32} {z1 : Int32} {z2 : Int32} {z3 : Int32} (hd : 1 ≤ d) : xT d 0 388 (ls) ([.int z0, .int z1, .int z2, .int z3, .ref 21]) (hh f a g) Q ↔ xTC (d - 1) 161 [.ref 21, .int z3, .int z2, .int z1, .int z0] (hh f a g) (xAf d 0 388 (ls) [] Q) := xT_virtual (k := 84) (na := 4) (ci := 8) (by decide +kernel) (by decide +kernel) (by decide +kernel) ⟨Nat.le_of_ble_eq_true rfl, Nat.le_of_ble_eq_true rfl⟩ rfl rfl (Nat.le_of_ble_eq_true rfl) rfl rfl ⟨Nat.le_of_ble_eq_true rfl, Nat.le_of_ble_eq_true rfl⟩ (Nat.le_of_ble_eq_true rfl) hd
theorem r0_391 : xT d 0 391 ([l0, l1, l2, l3, l4, .int w, l6]) (.int v :: st) h Q ↔ xT d 0 393 ([l0, l1, l2, l3, l4, .int w, .int v]) (st) h Q := xT_istore (k := 6) (by decide +kernel) rfl (Nat.le_of_ble_eq_true rfl) rfl
theorem r0_393 : xT d 0 393 (l0 :: l1 :: .ref ov :: ls) (st) h Q ↔ xT d 0 394 (l0 :: l1 :: .ref ov :: ls) (.ref ov :: st) h Q := xT_aload_n (k := 2) (by decide +kernel) rfl rfl
theorem r0_394 (hd : 1 ≤ d) : xT d 0 394 (ls) ([.ref 21]) (hh f a g) Q ↔ xTC (d - 1) 118 [.ref 21] (hh f a g) (xAf d 0 394 (ls) [] Q) := xT_virtual (k := 69) (na := 0) (ci := 8) (by decide +kernel) (by decide +kernel) (by decide +kernel) ⟨Nat.le_of_ble_eq_true rfl, Nat.le_of_ble_eq_true rfl⟩ rfl rfl (Nat.le_of_ble_eq_true rfl) rfl rfl ⟨Nat.le_of_ble_eq_true rfl, Nat.le_of_ble_eq_true rfl⟩ (Nat.le_of_ble_eq_true rfl) hd
theorem r0_397 : xT d 0 397 (l0 :: l1 :: l2 :: l3 :: l4 :: .int v :: ls) (st) h Q ↔ xT d 0 399 (l0 :: l1 :: l2 :: l3 :: l4 :: .int v :: ls) (.int v :: st) h Q := xT_iload (k := 5) (by decide +kernel) rfl rfl
theorem r0_399 (x0 : -2147483648 ≤ x) (x1 : x ≤ 2147483647) (y0 : -2147483648 ≤ y) (y1 : y ≤ 2147483647) : xT d 0 399 (ls) (.int (xI y) :: .int (xI x) :: st) h Q ↔ (x = y → xT d 0 404 (ls) (st) h Q) ∧ (¬ x = y → xT d 0 402 (ls) (st) h Q) := xT_iceq (off := 5) (by decide +kernel) rfl rfl x0 x1 y0 y1
theorem r0_402 : xT d 0 402 (ls) (st) h Q ↔ xT d 0 403 (ls) (.int (xI 0) :: st) h Q := xT_iconst (n := 0) (by decide +kernel) rfl
theorem r0_403 (hx : x = 0 ∨ x = 1) : xT d 0 403 (ls) ([.int (xI x)]) h Q ↔ Q (h, .returned (some (.int (xI x)))) := xT_zreturn (by decide +kernel) rfl hx
theorem r0_404 : xT d 0 404 (l0 :: l1 :: l2 :: l3 :: l4 :: .int v :: ls) (st) h Q ↔ xT d 0 406 (l0 :: l1 :: l2 :: l3 :: l4 :: .int v :: ls) (.int v :: st) h Q := xT_iload (k := 5) (by decide +kernel) rfl rfl
theorem r0_406 (x0 : -2147483648 ≤ x) (x1 : x ≤ 2147483647) : xT d 0 406 (ls) (.int (xI x) :: st) h Q ↔ (x = 0 → xT d 0 409 (ls) (st) h Q) ∧ (¬ x = 0 → xT d 0 421 (ls) (st) h Q) := xT_ifne (off := 15) (by decide +kernel) rfl rfl x0 x1
theorem r0_409 : xT d 0 409 (l0 :: l1 :: l2 :: .ref ov :: ls) (st) h Q ↔ xT d 0 410 (l0 :: l1 :: l2 :: .ref ov :: ls) (.ref ov :: st) h Q := xT_aload_n (k := 3) (by decide +kernel) rfl rfl
theorem r0_410 : xT d 0 410 (ls) (st) h Q ↔ xT d 0 411 (ls) (.int (xI 0) :: st) h Q := xT_iconst (n := 0) (by decide +kernel) rfl
theorem r0_412 : xT d 0 412 (l0 :: l1 :: l2 :: l3 :: l4 :: l5 :: .int v :: ls) (st) h Q ↔ xT d 0 414 (l0 :: l1 :: l2 :: l3 :: l4 :: l5 :: .int v :: ls) (.int v :: st) h Q := xT_iload (k := 6) (by decide +kernel) rfl rfl
theorem r0_414 : xT d 0 414 (ls) (.int v :: st) h Q ↔ xT d 0 415 (ls) (.long v.toInt64 :: st) h Q := xT_i2l (by decide +kernel) rfl
theorem r0_415 : xT d 0 415 (ls) (.long wl :: .long vl :: st) h Q ↔ xT d 0 416 (ls) (.int (lg_cmp vl wl) :: st) h Q := xT_lcmp (by decide +kernel) rfl
theorem r0_416 (x0 : -2147483648 ≤ x) (x1 : x ≤ 2147483647) : xT d 0 416 (ls) (.int (xI x) :: st) h Q ↔ (x = 0 → xT d 0 421 (ls) (st) h Q) ∧ (¬ x = 0 → xT d 0 419 (ls) (st) h Q) := xT_ifeq (off := 5) (by decide +kernel) rfl rfl x0 x1
theorem r0_419 : xT d 0 419 (ls) (st) h Q ↔ xT d 0 420 (ls) (.int (xI 0) :: st) h Q := xT_iconst (n := 0) (by decide +kernel) rfl
theorem r0_420 (hx : x = 0 ∨ x = 1) : xT d 0 420 (ls) ([.int (xI x)]) h Q ↔ Q (h, .returned (some (.int (xI x)))) := xT_zreturn (by decide +kernel) rfl hx
theorem r0_421 : xT d 0 421 (ls) (st) h Q ↔ xT d 0 938 (ls) (st) h Q := xT_goto (off := 517) (by decide +kernel) rfl
theorem r0_424 : xT d 0 424 (l0 :: .ref ov :: ls) (st) h Q ↔ xT d 0 425 (l0 :: .ref ov :: ls) (.ref ov :: st) h Q := xT_aload_n (k := 1) (by decide +kernel) rfl rfl
theorem r0_425 : xT d 0 425 (.ref ov :: ls) (st) h Q ↔ xT d 0 426 (.ref ov :: ls) (.ref ov :: st) h Q := xT_aload_n (k := 0) (by decide +kernel) rfl rfl
theorem r0_426 : xT d 0 426 (l0 :: l1 :: l2 :: l3 :: .int v :: ls) (st) h Q ↔ xT d 0 428 (l0 :: l1 :: l2 :: l3 :: .int v :: ls) (.int v :: st) h Q := xT_iload (k := 4) (by decide +kernel) rfl rfl
theorem r0_428 : xT d 0 428 (ls) (st) h Q ↔ xT d 0 429 (ls) (.int (xI 1) :: st) h Q := xT_iconst (n := 1) (by decide +kernel) rfl
theorem r0_429 : xT d 0 429 (ls) (.int (xI y) :: .int (xI x) :: st) h Q ↔ xT d 0 430 (ls) (.int (xI (x + y)) :: st) h Q := xT_iadd (by decide +kernel) rfl
theorem r0_430 (x0 : 0 ≤ x) (x1 : x < g.1) (hL : g.1 ≤ 4000) : xT d 0 430 (ls) (.int (xI x) :: .ref 0 :: st) (hh f a g) Q ↔ xT d 0 431 (ls) (.int (xI (a 0 x)) :: st) (hh f a g) Q := xT_iaload (N := g.1) (by decide +kernel) rfl rfl (Nat.le_of_ble_eq_true rfl) x0 x1 hL
theorem r0_431 : xT d 0 431 (l0 :: l1 :: l2 :: .ref ov :: ls) (st) h Q ↔ xT d 0 432 (l0 :: l1 :: l2 :: .ref ov :: ls) (.ref ov :: st) h Q := xT_aload_n (k := 3) (by decide +kernel) rfl rfl
theorem r0_432 {z0 : Nat} {z1 : Int32} {z2 : Nat} (hd : 1 ≤ d) : xT d 0 432 (ls) ([.ref z0, .int z1, .ref z2]) h Q ↔ xTC (d - 1) 10 [.ref z2, .int z1, .ref z0] h (xAf d 0 432 (ls) [] Q) := xT_static (k := 85) (na := 3) (by decide +kernel) (by decide +kernel) ⟨Nat.le_of_ble_eq_true rfl, Nat.le_of_ble_eq_true rfl⟩ rfl rfl (Nat.le_of_ble_eq_true rfl) (Nat.le_of_ble_eq_true rfl) hd
theorem r0_435 : xT d 0 435 ([l0, l1, l2, l3, .int w, l5, l6]) (.int v :: st) h Q ↔ xT d 0 437 ([l0, l1, l2, l3, .int w, .int v, l6]) (st) h Q := xT_istore (k := 5) (by decide +kernel) rfl (Nat.le_of_ble_eq_true rfl) rfl
theorem r0_437 : xT d 0 437 (l0 :: l1 :: .ref ov :: ls) (st) h Q ↔ xT d 0 438 (l0 :: l1 :: .ref ov :: ls) (.ref ov :: st) h Q := xT_aload_n (k := 2) (by decide +kernel) rfl rfl
theorem r0_438 : xT d 0 438 (.ref ov :: ls) (st) h Q ↔ xT d 0 439 (.ref ov :: ls) (.ref ov :: st) h Q := xT_aload_n (k := 0) (by decide +kernel) rfl rfl
theorem r0_439 : xT d 0 439 (l0 :: l1 :: l2 :: l3 :: .int v :: ls) (st) h Q ↔ xT d 0 441 (l0 :: l1 :: l2 :: l3 :: .int v :: ls) (.int v :: st) h Q := xT_iload (k := 4) (by decide +kernel) rfl rfl
theorem r0_441 : xT d 0 441 (ls) (st) h Q ↔ xT d 0 442 (ls) (.int (xI 1) :: st) h Q := xT_iconst (n := 1) (by decide +kernel) rfl
theorem r0_442 : xT d 0 442 (ls) (.int (xI y) :: .int (xI x) :: st) h Q ↔ xT d 0 443 (ls) (.int (xI (x + y)) :: st) h Q := xT_iadd (by decide +kernel) rfl
theorem r0_443 (x0 : 0 ≤ x) (x1 : x < g.1) (hL : g.1 ≤ 4000) : xT d 0 443 (ls) (.int (xI x) :: .ref 0 :: st) (hh f a g) Q ↔ xT d 0 444 (ls) (.int (xI (a 0 x)) :: st) (hh f a g) Q := xT_iaload (N := g.1) (by decide +kernel) rfl rfl (Nat.le_of_ble_eq_true rfl) x0 x1 hL
theorem r0_444 {z0 : Int32} (hd : 1 ≤ d) : xT d 0 444 (ls) ([.int z0, .ref 21]) (hh f a g) Q ↔ xTC (d - 1) 162 [.ref 21, .int z0] (hh f a g) (xAf d 0 444 (ls) [] Q) := xT_virtual (k := 87) (na := 1) (ci := 8) (by decide +kernel) (by decide +kernel) (by decide +kernel) ⟨Nat.le_of_ble_eq_true rfl, Nat.le_of_ble_eq_true rfl⟩ rfl rfl (Nat.le_of_ble_eq_true rfl) rfl rfl ⟨Nat.le_of_ble_eq_true rfl, Nat.le_of_ble_eq_true rfl⟩ (Nat.le_of_ble_eq_true rfl) hd
theorem r0_447 : xT d 0 447 ([l0, l1, l2, l3, l4, .int w, l6]) (.int v :: st) h Q ↔ xT d 0 449 ([l0, l1, l2, l3, l4, .int w, .int v]) (st) h Q := xT_istore (k := 6) (by decide +kernel) rfl (Nat.le_of_ble_eq_true rfl) rfl
theorem r0_449 : xT d 0 449 (l0 :: l1 :: .ref ov :: ls) (st) h Q ↔ xT d 0 450 (l0 :: l1 :: .ref ov :: ls) (.ref ov :: st) h Q := xT_aload_n (k := 2) (by decide +kernel) rfl rfl
theorem r0_450 (hd : 1 ≤ d) : xT d 0 450 (ls) ([.ref 21]) (hh f a g) Q ↔ xTC (d - 1) 118 [.ref 21] (hh f a g) (xAf d 0 450 (ls) [] Q) := xT_virtual (k := 69) (na := 0) (ci := 8) (by decide +kernel) (by decide +kernel) (by decide +kernel) ⟨Nat.le_of_ble_eq_true rfl, Nat.le_of_ble_eq_true rfl⟩ rfl rfl (Nat.le_of_ble_eq_true rfl) rfl rfl ⟨Nat.le_of_ble_eq_true rfl, Nat.le_of_ble_eq_true rfl⟩ (Nat.le_of_ble_eq_true rfl) hd
theorem r0_453 : xT d 0 453 (l0 :: l1 :: l2 :: l3 :: l4 :: .int v :: ls) (st) h Q ↔ xT d 0 455 (l0 :: l1 :: l2 :: l3 :: l4 :: .int v :: ls) (.int v :: st) h Q := xT_iload (k := 5) (by decide +kernel) rfl rfl
theorem r0_455 (x0 : -2147483648 ≤ x) (x1 : x ≤ 2147483647) (y0 : -2147483648 ≤ y) (y1 : y ≤ 2147483647) : xT d 0 455 (ls) (.int (xI y) :: .int (xI x) :: st) h Q ↔ (x = y → xT d 0 460 (ls) (st) h Q) ∧ (¬ x = y → xT d 0 458 (ls) (st) h Q) := xT_iceq (off := 5) (by decide +kernel) rfl rfl x0 x1 y0 y1
theorem r0_458 : xT d 0 458 (ls) (st) h Q ↔ xT d 0 459 (ls) (.int (xI 0) :: st) h Q := xT_iconst (n := 0) (by decide +kernel) rfl
theorem r0_459 (hx : x = 0 ∨ x = 1) : xT d 0 459 (ls) ([.int (xI x)]) h Q ↔ Q (h, .returned (some (.int (xI x)))) := xT_zreturn (by decide +kernel) rfl hx
theorem r0_460 : xT d 0 460 (l0 :: l1 :: l2 :: l3 :: l4 :: .int v :: ls) (st) h Q ↔ xT d 0 462 (l0 :: l1 :: l2 :: l3 :: l4 :: .int v :: ls) (.int v :: st) h Q := xT_iload (k := 5) (by decide +kernel) rfl rfl
theorem r0_462 (x0 : -2147483648 ≤ x) (x1 : x ≤ 2147483647) : xT d 0 462 (ls) (.int (xI x) :: st) h Q ↔ (x = 0 → xT d 0 465 (ls) (st) h Q) ∧ (¬ x = 0 → xT d 0 477 (ls) (st) h Q) := xT_ifne (off := 15) (by decide +kernel) rfl rfl x0 x1
theorem r0_465 : xT d 0 465 (l0 :: l1 :: l2 :: .ref ov :: ls) (st) h Q ↔ xT d 0 466 (l0 :: l1 :: l2 :: .ref ov :: ls) (.ref ov :: st) h Q := xT_aload_n (k := 3) (by decide +kernel) rfl rfl
theorem r0_466 : xT d 0 466 (ls) (st) h Q ↔ xT d 0 467 (ls) (.int (xI 0) :: st) h Q := xT_iconst (n := 0) (by decide +kernel) rfl
theorem r0_468 : xT d 0 468 (l0 :: l1 :: l2 :: l3 :: l4 :: l5 :: .int v :: ls) (st) h Q ↔ xT d 0 470 (l0 :: l1 :: l2 :: l3 :: l4 :: l5 :: .int v :: ls) (.int v :: st) h Q := xT_iload (k := 6) (by decide +kernel) rfl rfl
theorem r0_470 : xT d 0 470 (ls) (.int v :: st) h Q ↔ xT d 0 471 (ls) (.long v.toInt64 :: st) h Q := xT_i2l (by decide +kernel) rfl
theorem r0_471 : xT d 0 471 (ls) (.long wl :: .long vl :: st) h Q ↔ xT d 0 472 (ls) (.int (lg_cmp vl wl) :: st) h Q := xT_lcmp (by decide +kernel) rfl
theorem r0_472 (x0 : -2147483648 ≤ x) (x1 : x ≤ 2147483647) : xT d 0 472 (ls) (.int (xI x) :: st) h Q ↔ (x = 0 → xT d 0 477 (ls) (st) h Q) ∧ (¬ x = 0 → xT d 0 475 (ls) (st) h Q) := xT_ifeq (off := 5) (by decide +kernel) rfl rfl x0 x1
theorem r0_475 : xT d 0 475 (ls) (st) h Q ↔ xT d 0 476 (ls) (.int (xI 0) :: st) h Q := xT_iconst (n := 0) (by decide +kernel) rfl
theorem r0_476 (hx : x = 0 ∨ x = 1) : xT d 0 476 (ls) ([.int (xI x)]) h Q ↔ Q (h, .returned (some (.int (xI x)))) := xT_zreturn (by decide +kernel) rfl hx
theorem r0_477 : xT d 0 477 (ls) (st) h Q ↔ xT d 0 938 (ls) (st) h Q := xT_goto (off := 461) (by decide +kernel) rfl
theorem r0_480 : xT d 0 480 (l0 :: .ref ov :: ls) (st) h Q ↔ xT d 0 481 (l0 :: .ref ov :: ls) (.ref ov :: st) h Q := xT_aload_n (k := 1) (by decide +kernel) rfl rfl
theorem r0_481 : xT d 0 481 (.ref ov :: ls) (st) h Q ↔ xT d 0 482 (.ref ov :: ls) (.ref ov :: st) h Q := xT_aload_n (k := 0) (by decide +kernel) rfl rfl
theorem r0_482 : xT d 0 482 (l0 :: l1 :: l2 :: l3 :: .int v :: ls) (st) h Q ↔ xT d 0 484 (l0 :: l1 :: l2 :: l3 :: .int v :: ls) (.int v :: st) h Q := xT_iload (k := 4) (by decide +kernel) rfl rfl
theorem r0_484 : xT d 0 484 (ls) (st) h Q ↔ xT d 0 485 (ls) (.int (xI 1) :: st) h Q := xT_iconst (n := 1) (by decide +kernel) rfl
theorem r0_485 : xT d 0 485 (ls) (.int (xI y) :: .int (xI x) :: st) h Q ↔ xT d 0 486 (ls) (.int (xI (x + y)) :: st) h Q := xT_iadd (by decide +kernel) rfl
theorem r0_486 (x0 : 0 ≤ x) (x1 : x < g.1) (hL : g.1 ≤ 4000) : xT d 0 486 (ls) (.int (xI x) :: .ref 0 :: st) (hh f a g) Q ↔ xT d 0 487 (ls) (.int (xI (a 0 x)) :: st) (hh f a g) Q := xT_iaload (N := g.1) (by decide +kernel) rfl rfl (Nat.le_of_ble_eq_true rfl) x0 x1 hL
theorem r0_487 : xT d 0 487 (l0 :: l1 :: l2 :: .ref ov :: ls) (st) h Q ↔ xT d 0 488 (l0 :: l1 :: l2 :: .ref ov :: ls) (.ref ov :: st) h Q := xT_aload_n (k := 3) (by decide +kernel) rfl rfl
theorem r0_488 {z0 : Nat} {z1 : Int32} {z2 : Nat} (hd : 1 ≤ d) : xT d 0 488 (ls) ([.ref z0, .int z1, .ref z2]) h Q ↔ xTC (d - 1) 11 [.ref z2, .int z1, .ref z0] h (xAf d 0 488 (ls) [] Q) := xT_static (k := 88) (na := 3) (by decide +kernel) (by decide +kernel) ⟨Nat.le_of_ble_eq_true rfl, Nat.le_of_ble_eq_true rfl⟩ rfl rfl (Nat.le_of_ble_eq_true rfl) (Nat.le_of_ble_eq_true rfl) hd
theorem r0_491 : xT d 0 491 ([l0, l1, l2, l3, .int w, l5, l6]) (.int v :: st) h Q ↔ xT d 0 493 ([l0, l1, l2, l3, .int w, .int v, l6]) (st) h Q := xT_istore (k := 5) (by decide +kernel) rfl (Nat.le_of_ble_eq_true rfl) rfl
theorem r0_493 : xT d 0 493 (l0 :: l1 :: .ref ov :: ls) (st) h Q ↔ xT d 0 494 (l0 :: l1 :: .ref ov :: ls) (.ref ov :: st) h Q := xT_aload_n (k := 2) (by decide +kernel) rfl rfl
theorem r0_494 : xT d 0 494 (.ref ov :: ls) (st) h Q ↔ xT d 0 495 (.ref ov :: ls) (.ref ov :: st) h Q := xT_aload_n (k := 0) (by decide +kernel) rfl rfl
theorem r0_495 : xT d 0 495 (l0 :: l1 :: l2 :: l3 :: .int v :: ls) (st) h Q ↔ xT d 0 497 (l0 :: l1 :: l2 :: l3 :: .int v :: ls) (.int v :: st) h Q := xT_iload (k := 4) (by decide +kernel) rfl rfl
theorem r0_497 : xT d 0 497 (ls) (st) h Q ↔ xT d 0 498 (ls) (.int (xI 1) :: st) h Q := xT_iconst (n := 1) (by decide +kernel) rfl
theorem r0_498 : xT d 0 498 (ls) (.int (xI y) :: .int (xI x) :: st) h Q ↔ xT d 0 499 (ls) (.int (xI (x + y)) :: st) h Q := xT_iadd (by decide +kernel) rfl
theorem r0_499 (x0 : 0 ≤ x) (x1 : x < g.1) (hL : g.1 ≤ 4000) : xT d 0 499 (ls) (.int (xI x) :: .ref 0 :: st) (hh f a g) Q ↔ xT d 0 500 (ls) (.int (xI (a 0 x)) :: st) (hh f a g) Q := xT_iaload (N := g.1) (by decide +kernel) rfl rfl (Nat.le_of_ble_eq_true rfl) x0 x1 hL
theorem r0_500 {z0 : Int32} (hd : 1 ≤ d) : xT d 0 500 (ls) ([.int z0, .ref 21]) (hh f a g) Q ↔ xTC (d - 1) 97 [.ref 21, .int z0] (hh f a g) (xAf d 0 500 (ls) [] Q) := xT_virtual (k := 90) (na := 1) (ci := 8) (by decide +kernel) (by decide +kernel) (by decide +kernel) ⟨Nat.le_of_ble_eq_true rfl, Nat.le_of_ble_eq_true rfl⟩ rfl rfl (Nat.le_of_ble_eq_true rfl) rfl rfl ⟨Nat.le_of_ble_eq_true rfl, Nat.le_of_ble_eq_true rfl⟩ (Nat.le_of_ble_eq_true rfl) hd
theorem r0_503 : xT d 0 503 ([l0, l1, l2, l3, l4, .int w, l6]) (.int v :: st) h Q ↔ xT d 0 505 ([l0, l1, l2, l3, l4, .int w, .int v]) (st) h Q := xT_istore (k := 6) (by decide +kernel) rfl (Nat.le_of_ble_eq_true rfl) rfl
theorem r0_505 : xT d 0 505 (l0 :: l1 :: .ref ov :: ls) (st) h Q ↔ xT d 0 506 (l0 :: l1 :: .ref ov :: ls) (.ref ov :: st) h Q := xT_aload_n (k := 2) (by decide +kernel) rfl rfl
theorem r0_506 (hd : 1 ≤ d) : xT d 0 506 (ls) ([.ref 21]) (hh f a g) Q ↔ xTC (d - 1) 118 [.ref 21] (hh f a g) (xAf d 0 506 (ls) [] Q) := xT_virtual (k := 69) (na := 0) (ci := 8) (by decide +kernel) (by decide +kernel) (by decide +kernel) ⟨Nat.le_of_ble_eq_true rfl, Nat.le_of_ble_eq_true rfl⟩ rfl rfl (Nat.le_of_ble_eq_true rfl) rfl rfl ⟨Nat.le_of_ble_eq_true rfl, Nat.le_of_ble_eq_true rfl⟩ (Nat.le_of_ble_eq_true rfl) hd
theorem r0_509 : xT d 0 509 (l0 :: l1 :: l2 :: l3 :: l4 :: .int v :: ls) (st) h Q ↔ xT d 0 511 (l0 :: l1 :: l2 :: l3 :: l4 :: .int v :: ls) (.int v :: st) h Q := xT_iload (k := 5) (by decide +kernel) rfl rfl
theorem r0_511 (x0 : -2147483648 ≤ x) (x1 : x ≤ 2147483647) (y0 : -2147483648 ≤ y) (y1 : y ≤ 2147483647) : xT d 0 511 (ls) (.int (xI y) :: .int (xI x) :: st) h Q ↔ (x = y → xT d 0 516 (ls) (st) h Q) ∧ (¬ x = y → xT d 0 514 (ls) (st) h Q) := xT_iceq (off := 5) (by decide +kernel) rfl rfl x0 x1 y0 y1
theorem r0_514 : xT d 0 514 (ls) (st) h Q ↔ xT d 0 515 (ls) (.int (xI 0) :: st) h Q := xT_iconst (n := 0) (by decide +kernel) rfl
theorem r0_515 (hx : x = 0 ∨ x = 1) : xT d 0 515 (ls) ([.int (xI x)]) h Q ↔ Q (h, .returned (some (.int (xI x)))) := xT_zreturn (by decide +kernel) rfl hx
theorem r0_516 : xT d 0 516 (l0 :: l1 :: l2 :: l3 :: l4 :: .int v :: ls) (st) h Q ↔ xT d 0 518 (l0 :: l1 :: l2 :: l3 :: l4 :: .int v :: ls) (.int v :: st) h Q := xT_iload (k := 5) (by decide +kernel) rfl rfl
theorem r0_518 (x0 : -2147483648 ≤ x) (x1 : x ≤ 2147483647) : xT d 0 518 (ls) (.int (xI x) :: st) h Q ↔ (x = 0 → xT d 0 521 (ls) (st) h Q) ∧ (¬ x = 0 → xT d 0 533 (ls) (st) h Q) := xT_ifne (off := 15) (by decide +kernel) rfl rfl x0 x1
theorem r0_521 : xT d 0 521 (l0 :: l1 :: l2 :: .ref ov :: ls) (st) h Q ↔ xT d 0 522 (l0 :: l1 :: l2 :: .ref ov :: ls) (.ref ov :: st) h Q := xT_aload_n (k := 3) (by decide +kernel) rfl rfl
theorem r0_522 : xT d 0 522 (ls) (st) h Q ↔ xT d 0 523 (ls) (.int (xI 0) :: st) h Q := xT_iconst (n := 0) (by decide +kernel) rfl
theorem r0_524 : xT d 0 524 (l0 :: l1 :: l2 :: l3 :: l4 :: l5 :: .int v :: ls) (st) h Q ↔ xT d 0 526 (l0 :: l1 :: l2 :: l3 :: l4 :: l5 :: .int v :: ls) (.int v :: st) h Q := xT_iload (k := 6) (by decide +kernel) rfl rfl
theorem r0_526 : xT d 0 526 (ls) (.int v :: st) h Q ↔ xT d 0 527 (ls) (.long v.toInt64 :: st) h Q := xT_i2l (by decide +kernel) rfl
theorem r0_527 : xT d 0 527 (ls) (.long wl :: .long vl :: st) h Q ↔ xT d 0 528 (ls) (.int (lg_cmp vl wl) :: st) h Q := xT_lcmp (by decide +kernel) rfl
theorem r0_528 (x0 : -2147483648 ≤ x) (x1 : x ≤ 2147483647) : xT d 0 528 (ls) (.int (xI x) :: st) h Q ↔ (x = 0 → xT d 0 533 (ls) (st) h Q) ∧ (¬ x = 0 → xT d 0 531 (ls) (st) h Q) := xT_ifeq (off := 5) (by decide +kernel) rfl rfl x0 x1
theorem r0_531 : xT d 0 531 (ls) (st) h Q ↔ xT d 0 532 (ls) (.int (xI 0) :: st) h Q := xT_iconst (n := 0) (by decide +kernel) rfl
theorem r0_532 (hx : x = 0 ∨ x = 1) : xT d 0 532 (ls) ([.int (xI x)]) h Q ↔ Q (h, .returned (some (.int (xI x)))) := xT_zreturn (by decide +kernel) rfl hx
theorem r0_533 : xT d 0 533 (ls) (st) h Q ↔ xT d 0 938 (ls) (st) h Q := xT_goto (off := 405) (by decide +kernel) rfl
theorem r0_536 : xT d 0 536 (l0 :: .ref ov :: ls) (st) h Q ↔ xT d 0 537 (l0 :: .ref ov :: ls) (.ref ov :: st) h Q := xT_aload_n (k := 1) (by decide +kernel) rfl rfl
theorem r0_537 : xT d 0 537 (.ref ov :: ls) (st) h Q ↔ xT d 0 538 (.ref ov :: ls) (.ref ov :: st) h Q := xT_aload_n (k := 0) (by decide +kernel) rfl rfl
theorem r0_538 : xT d 0 538 (l0 :: l1 :: l2 :: l3 :: .int v :: ls) (st) h Q ↔ xT d 0 540 (l0 :: l1 :: l2 :: l3 :: .int v :: ls) (.int v :: st) h Q := xT_iload (k := 4) (by decide +kernel) rfl rfl
theorem r0_540 : xT d 0 540 (ls) (st) h Q ↔ xT d 0 541 (ls) (.int (xI 1) :: st) h Q := xT_iconst (n := 1) (by decide +kernel) rfl
theorem r0_541 : xT d 0 541 (ls) (.int (xI y) :: .int (xI x) :: st) h Q ↔ xT d 0 542 (ls) (.int (xI (x + y)) :: st) h Q := xT_iadd (by decide +kernel) rfl
theorem r0_542 (x0 : 0 ≤ x) (x1 : x < g.1) (hL : g.1 ≤ 4000) : xT d 0 542 (ls) (.int (xI x) :: .ref 0 :: st) (hh f a g) Q ↔ xT d 0 543 (ls) (.int (xI (a 0 x)) :: st) (hh f a g) Q := xT_iaload (N := g.1) (by decide +kernel) rfl rfl (Nat.le_of_ble_eq_true rfl) x0 x1 hL
theorem r0_543 : xT d 0 543 (.ref ov :: ls) (st) h Q ↔ xT d 0 544 (.ref ov :: ls) (.ref ov :: st) h Q := xT_aload_n (k := 0) (by decide +kernel) rfl rfl
theorem r0_544 : xT d 0 544 (l0 :: l1 :: l2 :: l3 :: .int v :: ls) (st) h Q ↔ xT d 0 546 (l0 :: l1 :: l2 :: l3 :: .int v :: ls) (.int v :: st) h Q := xT_iload (k := 4) (by decide +kernel) rfl rfl
theorem r0_546 : xT d 0 546 (ls) (st) h Q ↔ xT d 0 547 (ls) (.int (xI 2) :: st) h Q := xT_iconst (n := 2) (by decide +kernel) rfl
theorem r0_547 : xT d 0 547 (ls) (.int (xI y) :: .int (xI x) :: st) h Q ↔ xT d 0 548 (ls) (.int (xI (x + y)) :: st) h Q := xT_iadd (by decide +kernel) rfl
theorem r0_548 (x0 : 0 ≤ x) (x1 : x < g.1) (hL : g.1 ≤ 4000) : xT d 0 548 (ls) (.int (xI x) :: .ref 0 :: st) (hh f a g) Q ↔ xT d 0 549 (ls) (.int (xI (a 0 x)) :: st) (hh f a g) Q := xT_iaload (N := g.1) (by decide +kernel) rfl rfl (Nat.le_of_ble_eq_true rfl) x0 x1 hL
theorem r0_549 : xT d 0 549 (l0 :: l1 :: l2 :: .ref ov :: ls) (st) h Q ↔ xT d 0 550 (l0 :: l1 :: l2 :: .ref ov :: ls) (.ref ov :: st) h Q := xT_aload_n (k := 3) (by decide +kernel) rfl rfl
theorem r0_550 {z0 : Nat} {z1 : Int32} {z2 : Int32} {z3 : Nat} (hd : 1 ≤ d) : xT d 0 550 (ls) ([.ref z0, .int z1, .int z2, .ref z3]) h Q ↔ xTC (d - 1) 12 [.ref z3, .int z2, .int z1, .ref z0] h (xAf d 0 550 (ls) [] Q) := xT_static (k := 91) (na := 4) (by decide +kernel) (by decide +kernel) ⟨Nat.le_of_ble_eq_true rfl, Nat.le_of_ble_eq_true rfl⟩ rfl rfl (Nat.le_of_ble_eq_true rfl) (Nat.le_of_ble_eq_true rfl) hd
theorem r0_553 : xT d 0 553 ([l0, l1, l2, l3, .int w, l5, l6]) (.int v :: st) h Q ↔ xT d 0 555 ([l0, l1, l2, l3, .int w, .int v, l6]) (st) h Q := xT_istore (k := 5) (by decide +kernel) rfl (Nat.le_of_ble_eq_true rfl) rfl
theorem r0_555 : xT d 0 555 (l0 :: l1 :: .ref ov :: ls) (st) h Q ↔ xT d 0 556 (l0 :: l1 :: .ref ov :: ls) (.ref ov :: st) h Q := xT_aload_n (k := 2) (by decide +kernel) rfl rfl
theorem r0_556 : xT d 0 556 (.ref ov :: ls) (st) h Q ↔ xT d 0 557 (.ref ov :: ls) (.ref ov :: st) h Q := xT_aload_n (k := 0) (by decide +kernel) rfl rfl
theorem r0_557 : xT d 0 557 (l0 :: l1 :: l2 :: l3 :: .int v :: ls) (st) h Q ↔ xT d 0 559 (l0 :: l1 :: l2 :: l3 :: .int v :: ls) (.int v :: st) h Q := xT_iload (k := 4) (by decide +kernel) rfl rfl
theorem r0_559 : xT d 0 559 (ls) (st) h Q ↔ xT d 0 560 (ls) (.int (xI 1) :: st) h Q := xT_iconst (n := 1) (by decide +kernel) rfl
theorem r0_560 : xT d 0 560 (ls) (.int (xI y) :: .int (xI x) :: st) h Q ↔ xT d 0 561 (ls) (.int (xI (x + y)) :: st) h Q := xT_iadd (by decide +kernel) rfl
theorem r0_561 (x0 : 0 ≤ x) (x1 : x < g.1) (hL : g.1 ≤ 4000) : xT d 0 561 (ls) (.int (xI x) :: .ref 0 :: st) (hh f a g) Q ↔ xT d 0 562 (ls) (.int (xI (a 0 x)) :: st) (hh f a g) Q := xT_iaload (N := g.1) (by decide +kernel) rfl rfl (Nat.le_of_ble_eq_true rfl) x0 x1 hL
theorem r0_562 : xT d 0 562 (.ref ov :: ls) (st) h Q ↔ xT d 0 563 (.ref ov :: ls) (.ref ov :: st) h Q := xT_aload_n (k := 0) (by decide +kernel) rfl rfl
theorem r0_563 : xT d 0 563 (l0 :: l1 :: l2 :: l3 :: .int v :: ls) (st) h Q ↔ xT d 0 565 (l0 :: l1 :: l2 :: l3 :: .int v :: ls) (.int v :: st) h Q := xT_iload (k := 4) (by decide +kernel) rfl rfl
theorem r0_565 : xT d 0 565 (ls) (st) h Q ↔ xT d 0 566 (ls) (.int (xI 2) :: st) h Q := xT_iconst (n := 2) (by decide +kernel) rfl
theorem r0_566 : xT d 0 566 (ls) (.int (xI y) :: .int (xI x) :: st) h Q ↔ xT d 0 567 (ls) (.int (xI (x + y)) :: st) h Q := xT_iadd (by decide +kernel) rfl
theorem r0_567 (x0 : 0 ≤ x) (x1 : x < g.1) (hL : g.1 ≤ 4000) : xT d 0 567 (ls) (.int (xI x) :: .ref 0 :: st) (hh f a g) Q ↔ xT d 0 568 (ls) (.int (xI (a 0 x)) :: st) (hh f a g) Q := xT_iaload (N := g.1) (by decide +kernel) rfl rfl (Nat.le_of_ble_eq_true rfl) x0 x1 hL
theorem r0_568 {z0 : Int32} {z1 : Int32} (hd : 1 ≤ d) : xT d 0 568 (ls) ([.int z0, .int z1, .ref 21]) (hh f a g) Q ↔ xTC (d - 1) 141 [.ref 21, .int z1, .int z0] (hh f a g) (xAf d 0 568 (ls) [] Q) := xT_virtual (k := 94) (na := 2) (ci := 8) (by decide +kernel) (by decide +kernel) (by decide +kernel) ⟨Nat.le_of_ble_eq_true rfl, Nat.le_of_ble_eq_true rfl⟩ rfl rfl (Nat.le_of_ble_eq_true rfl) rfl rfl ⟨Nat.le_of_ble_eq_true rfl, Nat.le_of_ble_eq_true rfl⟩ (Nat.le_of_ble_eq_true rfl) hd
theorem r0_571 : xT d 0 571 ([l0, l1, l2, l3, l4, .int w, l6]) (.int v :: st) h Q ↔ xT d 0 573 ([l0, l1, l2, l3, l4, .int w, .int v]) (st) h Q := xT_istore (k := 6) (by decide +kernel) rfl (Nat.le_of_ble_eq_true rfl) rfl
theorem r0_573 : xT d 0 573 (l0 :: l1 :: .ref ov :: ls) (st) h Q ↔ xT d 0 574 (l0 :: l1 :: .ref ov :: ls) (.ref ov :: st) h Q := xT_aload_n (k := 2) (by decide +kernel) rfl rfl
theorem r0_574 (hd : 1 ≤ d) : xT d 0 574 (ls) ([.ref 21]) (hh f a g) Q ↔ xTC (d - 1) 118 [.ref 21] (hh f a g) (xAf d 0 574 (ls) [] Q) := xT_virtual (k := 69) (na := 0) (ci := 8) (by decide +kernel) (by decide +kernel) (by decide +kernel) ⟨Nat.le_of_ble_eq_true rfl, Nat.le_of_ble_eq_true rfl⟩ rfl rfl (Nat.le_of_ble_eq_true rfl) rfl rfl ⟨Nat.le_of_ble_eq_true rfl, Nat.le_of_ble_eq_true rfl⟩ (Nat.le_of_ble_eq_true rfl) hd
theorem r0_577 : xT d 0 577 (l0 :: l1 :: l2 :: l3 :: l4 :: .int v :: ls) (st) h Q ↔ xT d 0 579 (l0 :: l1 :: l2 :: l3 :: l4 :: .int v :: ls) (.int v :: st) h Q := xT_iload (k := 5) (by decide +kernel) rfl rfl
theorem r0_579 (x0 : -2147483648 ≤ x) (x1 : x ≤ 2147483647) (y0 : -2147483648 ≤ y) (y1 : y ≤ 2147483647) : xT d 0 579 (ls) (.int (xI y) :: .int (xI x) :: st) h Q ↔ (x = y → xT d 0 584 (ls) (st) h Q) ∧ (¬ x = y → xT d 0 582 (ls) (st) h Q) := xT_iceq (off := 5) (by decide +kernel) rfl rfl x0 x1 y0 y1
theorem r0_582 : xT d 0 582 (ls) (st) h Q ↔ xT d 0 583 (ls) (.int (xI 0) :: st) h Q := xT_iconst (n := 0) (by decide +kernel) rfl
theorem r0_583 (hx : x = 0 ∨ x = 1) : xT d 0 583 (ls) ([.int (xI x)]) h Q ↔ Q (h, .returned (some (.int (xI x)))) := xT_zreturn (by decide +kernel) rfl hx
theorem r0_584 : xT d 0 584 (l0 :: l1 :: l2 :: l3 :: l4 :: .int v :: ls) (st) h Q ↔ xT d 0 586 (l0 :: l1 :: l2 :: l3 :: l4 :: .int v :: ls) (.int v :: st) h Q := xT_iload (k := 5) (by decide +kernel) rfl rfl
theorem r0_586 (x0 : -2147483648 ≤ x) (x1 : x ≤ 2147483647) : xT d 0 586 (ls) (.int (xI x) :: st) h Q ↔ (x = 0 → xT d 0 589 (ls) (st) h Q) ∧ (¬ x = 0 → xT d 0 601 (ls) (st) h Q) := xT_ifne (off := 15) (by decide +kernel) rfl rfl x0 x1
theorem r0_589 : xT d 0 589 (l0 :: l1 :: l2 :: .ref ov :: ls) (st) h Q ↔ xT d 0 590 (l0 :: l1 :: l2 :: .ref ov :: ls) (.ref ov :: st) h Q := xT_aload_n (k := 3) (by decide +kernel) rfl rfl
theorem r0_590 : xT d 0 590 (ls) (st) h Q ↔ xT d 0 591 (ls) (.int (xI 0) :: st) h Q := xT_iconst (n := 0) (by decide +kernel) rfl
theorem r0_592 : xT d 0 592 (l0 :: l1 :: l2 :: l3 :: l4 :: l5 :: .int v :: ls) (st) h Q ↔ xT d 0 594 (l0 :: l1 :: l2 :: l3 :: l4 :: l5 :: .int v :: ls) (.int v :: st) h Q := xT_iload (k := 6) (by decide +kernel) rfl rfl
theorem r0_594 : xT d 0 594 (ls) (.int v :: st) h Q ↔ xT d 0 595 (ls) (.long v.toInt64 :: st) h Q := xT_i2l (by decide +kernel) rfl
theorem r0_595 : xT d 0 595 (ls) (.long wl :: .long vl :: st) h Q ↔ xT d 0 596 (ls) (.int (lg_cmp vl wl) :: st) h Q := xT_lcmp (by decide +kernel) rfl
theorem r0_596 (x0 : -2147483648 ≤ x) (x1 : x ≤ 2147483647) : xT d 0 596 (ls) (.int (xI x) :: st) h Q ↔ (x = 0 → xT d 0 601 (ls) (st) h Q) ∧ (¬ x = 0 → xT d 0 599 (ls) (st) h Q) := xT_ifeq (off := 5) (by decide +kernel) rfl rfl x0 x1
theorem r0_599 : xT d 0 599 (ls) (st) h Q ↔ xT d 0 600 (ls) (.int (xI 0) :: st) h Q := xT_iconst (n := 0) (by decide +kernel) rfl
theorem r0_600 (hx : x = 0 ∨ x = 1) : xT d 0 600 (ls) ([.int (xI x)]) h Q ↔ Q (h, .returned (some (.int (xI x)))) := xT_zreturn (by decide +kernel) rfl hx
theorem r0_601 : xT d 0 601 (ls) (st) h Q ↔ xT d 0 938 (ls) (st) h Q := xT_goto (off := 337) (by decide +kernel) rfl
theorem r0_604 : xT d 0 604 (l0 :: .ref ov :: ls) (st) h Q ↔ xT d 0 605 (l0 :: .ref ov :: ls) (.ref ov :: st) h Q := xT_aload_n (k := 1) (by decide +kernel) rfl rfl
theorem r0_605 (hd : 1 ≤ d) : xT d 0 605 (ls) ([.ref 1]) (hh f a g) Q ↔ xTC (d - 1) 32 [.ref 1] (hh f a g) (xAf d 0 605 (ls) [] Q) := xT_virtual (k := 95) (na := 0) (ci := 0) (by decide +kernel) (by decide +kernel) (by decide +kernel) ⟨Nat.le_of_ble_eq_true rfl, Nat.le_of_ble_eq_true rfl⟩ rfl rfl (Nat.le_of_ble_eq_true rfl) rfl rfl ⟨Nat.le_of_ble_eq_true rfl, Nat.le_of_ble_eq_true rfl⟩ (Nat.le_of_ble_eq_true rfl) hd
theorem r0_608 : xT d 0 608 (l0 :: l1 :: .ref ov :: ls) (st) h Q ↔ xT d 0 609 (l0 :: l1 :: .ref ov :: ls) (.ref ov :: st) h Q := xT_aload_n (k := 2) (by decide +kernel) rfl rfl
theorem r0_609 {z1 : Int32} (hd : 1 ≤ d) : xT d 0 609 (ls) ([.ref 21, .int z1]) (hh f a g) Q ↔ xTC (d - 1) 153 [.ref 21] (hh f a g) (xAf d 0 609 (ls) [.int z1] Q) := xT_virtual (k := 98) (na := 0) (ci := 8) (by decide +kernel) (by decide +kernel) (by decide +kernel) ⟨Nat.le_of_ble_eq_true rfl, Nat.le_of_ble_eq_true rfl⟩ rfl rfl (Nat.le_of_ble_eq_true rfl) rfl rfl ⟨Nat.le_of_ble_eq_true rfl, Nat.le_of_ble_eq_true rfl⟩ (Nat.le_of_ble_eq_true rfl) hd
theorem r0_612 (x0 : -2147483648 ≤ x) (x1 : x ≤ 2147483647) (y0 : -2147483648 ≤ y) (y1 : y ≤ 2147483647) : xT d 0 612 (ls) (.int (xI y) :: .int (xI x) :: st) h Q ↔ (x = y → xT d 0 938 (ls) (st) h Q) ∧ (¬ x = y → xT d 0 615 (ls) (st) h Q) := xT_iceq (off := 326) (by decide +kernel) rfl rfl x0 x1 y0 y1
theorem r0_615 : xT d 0 615 (ls) (st) h Q ↔ xT d 0 616 (ls) (.int (xI 0) :: st) h Q := xT_iconst (n := 0) (by decide +kernel) rfl
theorem r0_616 (hx : x = 0 ∨ x = 1) : xT d 0 616 (ls) ([.int (xI x)]) h Q ↔ Q (h, .returned (some (.int (xI x)))) := xT_zreturn (by decide +kernel) rfl hx
theorem r0_617 : xT d 0 617 (l0 :: .ref ov :: ls) (st) h Q ↔ xT d 0 618 (l0 :: .ref ov :: ls) (.ref ov :: st) h Q := xT_aload_n (k := 1) (by decide +kernel) rfl rfl
theorem r0_618 (hd : 1 ≤ d) : xT d 0 618 (ls) ([.ref 1]) (hh f a g) Q ↔ xTC (d - 1) 13 [.ref 1] (hh f a g) (xAf d 0 618 (ls) [] Q) := xT_virtual (k := 99) (na := 0) (ci := 0) (by decide +kernel) (by decide +kernel) (by decide +kernel) ⟨Nat.le_of_ble_eq_true rfl, Nat.le_of_ble_eq_true rfl⟩ rfl rfl (Nat.le_of_ble_eq_true rfl) rfl rfl ⟨Nat.le_of_ble_eq_true rfl, Nat.le_of_ble_eq_true rfl⟩ (Nat.le_of_ble_eq_true rfl) hd
theorem r0_621 : xT d 0 621 (l0 :: l1 :: .ref ov :: ls) (st) h Q ↔ xT d 0 622 (l0 :: l1 :: .ref ov :: ls) (.ref ov :: st) h Q := xT_aload_n (k := 2) (by decide +kernel) rfl rfl
theorem r0_622 {z1 : Int32} (hd : 1 ≤ d) : xT d 0 622 (ls) ([.ref 21, .int z1]) (hh f a g) Q ↔ xTC (d - 1) 154 [.ref 21] (hh f a g) (xAf d 0 622 (ls) [.int z1] Q) := xT_virtual (k := 102) (na := 0) (ci := 8) (by decide +kernel) (by decide +kernel) (by decide +kernel) ⟨Nat.le_of_ble_eq_true rfl, Nat.le_of_ble_eq_true rfl⟩ rfl rfl (Nat.le_of_ble_eq_true rfl) rfl rfl ⟨Nat.le_of_ble_eq_true rfl, Nat.le_of_ble_eq_true rfl⟩ (Nat.le_of_ble_eq_true rfl) hd
theorem r0_625 (x0 : -2147483648 ≤ x) (x1 : x ≤ 2147483647) (y0 : -2147483648 ≤ y) (y1 : y ≤ 2147483647) : xT d 0 625 (ls) (.int (xI y) :: .int (xI x) :: st) h Q ↔ (x = y → xT d 0 938 (ls) (st) h Q) ∧ (¬ x = y → xT d 0 628 (ls) (st) h Q) := xT_iceq (off := 313) (by decide +kernel) rfl rfl x0 x1 y0 y1
theorem r0_628 : xT d 0 628 (ls) (st) h Q ↔ xT d 0 629 (ls) (.int (xI 0) :: st) h Q := xT_iconst (n := 0) (by decide +kernel) rfl
theorem r0_629 (hx : x = 0 ∨ x = 1) : xT d 0 629 (ls) ([.int (xI x)]) h Q ↔ Q (h, .returned (some (.int (xI x)))) := xT_zreturn (by decide +kernel) rfl hx
theorem r0_630 : xT d 0 630 (l0 :: .ref ov :: ls) (st) h Q ↔ xT d 0 631 (l0 :: .ref ov :: ls) (.ref ov :: st) h Q := xT_aload_n (k := 1) (by decide +kernel) rfl rfl
theorem r0_631 : xT d 0 631 (.ref ov :: ls) (st) h Q ↔ xT d 0 632 (.ref ov :: ls) (.ref ov :: st) h Q := xT_aload_n (k := 0) (by decide +kernel) rfl rfl
theorem r0_632 : xT d 0 632 (l0 :: l1 :: l2 :: l3 :: .int v :: ls) (st) h Q ↔ xT d 0 634 (l0 :: l1 :: l2 :: l3 :: .int v :: ls) (.int v :: st) h Q := xT_iload (k := 4) (by decide +kernel) rfl rfl
theorem r0_634 : xT d 0 634 (ls) (st) h Q ↔ xT d 0 635 (ls) (.int (xI 1) :: st) h Q := xT_iconst (n := 1) (by decide +kernel) rfl
theorem r0_635 : xT d 0 635 (ls) (.int (xI y) :: .int (xI x) :: st) h Q ↔ xT d 0 636 (ls) (.int (xI (x + y)) :: st) h Q := xT_iadd (by decide +kernel) rfl
theorem r0_636 (x0 : 0 ≤ x) (x1 : x < g.1) (hL : g.1 ≤ 4000) : xT d 0 636 (ls) (.int (xI x) :: .ref 0 :: st) (hh f a g) Q ↔ xT d 0 637 (ls) (.int (xI (a 0 x)) :: st) (hh f a g) Q := xT_iaload (N := g.1) (by decide +kernel) rfl rfl (Nat.le_of_ble_eq_true rfl) x0 x1 hL
theorem r0_637 : xT d 0 637 (l0 :: l1 :: l2 :: .ref ov :: ls) (st) h Q ↔ xT d 0 638 (l0 :: l1 :: l2 :: .ref ov :: ls) (.ref ov :: st) h Q := xT_aload_n (k := 3) (by decide +kernel) rfl rfl
theorem r0_638 {z0 : Nat} {z1 : Int32} {z2 : Nat} (hd : 1 ≤ d) : xT d 0 638 (ls) ([.ref z0, .int z1, .ref z2]) h Q ↔ xTC (d - 1) 1 [.ref z2, .int z1, .ref z0] h (xAf d 0 638 (ls) [] Q) := xT_static (k := 103) (na := 3) (by decide +kernel) (by decide +kernel) ⟨Nat.le_of_ble_eq_true rfl, Nat.le_of_ble_eq_true rfl⟩ rfl rfl (Nat.le_of_ble_eq_true rfl) (Nat.le_of_ble_eq_true rfl) hd
theorem r0_641 : xT d 0 641 ([l0, l1, l2, l3, .int w, l5, l6]) (.int v :: st) h Q ↔ xT d 0 643 ([l0, l1, l2, l3, .int w, .int v, l6]) (st) h Q := xT_istore (k := 5) (by decide +kernel) rfl (Nat.le_of_ble_eq_true rfl) rfl
theorem r0_643 : xT d 0 643 (l0 :: l1 :: .ref ov :: ls) (st) h Q ↔ xT d 0 644 (l0 :: l1 :: .ref ov :: ls) (.ref ov :: st) h Q := xT_aload_n (k := 2) (by decide +kernel) rfl rfl
theorem r0_644 : xT d 0 644 (.ref ov :: ls) (st) h Q ↔ xT d 0 645 (.ref ov :: ls) (.ref ov :: st) h Q := xT_aload_n (k := 0) (by decide +kernel) rfl rfl
theorem r0_645 : xT d 0 645 (l0 :: l1 :: l2 :: l3 :: .int v :: ls) (st) h Q ↔ xT d 0 647 (l0 :: l1 :: l2 :: l3 :: .int v :: ls) (.int v :: st) h Q := xT_iload (k := 4) (by decide +kernel) rfl rfl
theorem r0_647 : xT d 0 647 (ls) (st) h Q ↔ xT d 0 648 (ls) (.int (xI 1) :: st) h Q := xT_iconst (n := 1) (by decide +kernel) rfl
theorem r0_648 : xT d 0 648 (ls) (.int (xI y) :: .int (xI x) :: st) h Q ↔ xT d 0 649 (ls) (.int (xI (x + y)) :: st) h Q := xT_iadd (by decide +kernel) rfl
theorem r0_649 (x0 : 0 ≤ x) (x1 : x < g.1) (hL : g.1 ≤ 4000) : xT d 0 649 (ls) (.int (xI x) :: .ref 0 :: st) (hh f a g) Q ↔ xT d 0 650 (ls) (.int (xI (a 0 x)) :: st) (hh f a g) Q := xT_iaload (N := g.1) (by decide +kernel) rfl rfl (Nat.le_of_ble_eq_true rfl) x0 x1 hL
theorem r0_650 {z0 : Int32} (hd : 1 ≤ d) : xT d 0 650 (ls) ([.int z0, .ref 21]) (hh f a g) Q ↔ xTC (d - 1) 155 [.ref 21, .int z0] (hh f a g) (xAf d 0 650 (ls) [] Q) := xT_virtual (k := 105) (na := 1) (ci := 8) (by decide +kernel) (by decide +kernel) (by decide +kernel) ⟨Nat.le_of_ble_eq_true rfl, Nat.le_of_ble_eq_true rfl⟩ rfl rfl (Nat.le_of_ble_eq_true rfl) rfl rfl ⟨Nat.le_of_ble_eq_true rfl, Nat.le_of_ble_eq_true rfl⟩ (Nat.le_of_ble_eq_true rfl) hd
theorem r0_653 : xT d 0 653 ([l0, l1, l2, l3, l4, .int w, l6]) (.int v :: st) h Q ↔ xT d 0 655 ([l0, l1, l2, l3, l4, .int w, .int v]) (st) h Q := xT_istore (k := 6) (by decide +kernel) rfl (Nat.le_of_ble_eq_true rfl) rfl
theorem r0_655 : xT d 0 655 (l0 :: l1 :: .ref ov :: ls) (st) h Q ↔ xT d 0 656 (l0 :: l1 :: .ref ov :: ls) (.ref ov :: st) h Q := xT_aload_n (k := 2) (by decide +kernel) rfl rfl
theorem r0_656 (hd : 1 ≤ d) : xT d 0 656 (ls) ([.ref 21]) (hh f a g) Q ↔ xTC (d - 1) 118 [.ref 21] (hh f a g) (xAf d 0 656 (ls) [] Q) := xT_virtual (k := 69) (na := 0) (ci := 8) (by decide +kernel) (by decide +kernel) (by decide +kernel) ⟨Nat.le_of_ble_eq_true rfl, Nat.le_of_ble_eq_true rfl⟩ rfl rfl (Nat.le_of_ble_eq_true rfl) rfl rfl ⟨Nat.le_of_ble_eq_true rfl, Nat.le_of_ble_eq_true rfl⟩ (Nat.le_of_ble_eq_true rfl) hd
theorem r0_659 : xT d 0 659 (l0 :: l1 :: l2 :: l3 :: l4 :: .int v :: ls) (st) h Q ↔ xT d 0 661 (l0 :: l1 :: l2 :: l3 :: l4 :: .int v :: ls) (.int v :: st) h Q := xT_iload (k := 5) (by decide +kernel) rfl rfl
theorem r0_661 (x0 : -2147483648 ≤ x) (x1 : x ≤ 2147483647) (y0 : -2147483648 ≤ y) (y1 : y ≤ 2147483647) : xT d 0 661 (ls) (.int (xI y) :: .int (xI x) :: st) h Q ↔ (x = y → xT d 0 666 (ls) (st) h Q) ∧ (¬ x = y → xT d 0 664 (ls) (st) h Q) := xT_iceq (off := 5) (by decide +kernel) rfl rfl x0 x1 y0 y1
theorem r0_664 : xT d 0 664 (ls) (st) h Q ↔ xT d 0 665 (ls) (.int (xI 0) :: st) h Q := xT_iconst (n := 0) (by decide +kernel) rfl
theorem r0_665 (hx : x = 0 ∨ x = 1) : xT d 0 665 (ls) ([.int (xI x)]) h Q ↔ Q (h, .returned (some (.int (xI x)))) := xT_zreturn (by decide +kernel) rfl hx
theorem r0_666 : xT d 0 666 (l0 :: l1 :: l2 :: l3 :: l4 :: .int v :: ls) (st) h Q ↔ xT d 0 668 (l0 :: l1 :: l2 :: l3 :: l4 :: .int v :: ls) (.int v :: st) h Q := xT_iload (k := 5) (by decide +kernel) rfl rfl
theorem r0_668 (x0 : -2147483648 ≤ x) (x1 : x ≤ 2147483647) : xT d 0 668 (ls) (.int (xI x) :: st) h Q ↔ (x = 0 → xT d 0 671 (ls) (st) h Q) ∧ (¬ x = 0 → xT d 0 683 (ls) (st) h Q) := xT_ifne (off := 15) (by decide +kernel) rfl rfl x0 x1
theorem r0_671 : xT d 0 671 (l0 :: l1 :: l2 :: .ref ov :: ls) (st) h Q ↔ xT d 0 672 (l0 :: l1 :: l2 :: .ref ov :: ls) (.ref ov :: st) h Q := xT_aload_n (k := 3) (by decide +kernel) rfl rfl
theorem r0_672 : xT d 0 672 (ls) (st) h Q ↔ xT d 0 673 (ls) (.int (xI 0) :: st) h Q := xT_iconst (n := 0) (by decide +kernel) rfl
theorem r0_674 : xT d 0 674 (l0 :: l1 :: l2 :: l3 :: l4 :: l5 :: .int v :: ls) (st) h Q ↔ xT d 0 676 (l0 :: l1 :: l2 :: l3 :: l4 :: l5 :: .int v :: ls) (.int v :: st) h Q := xT_iload (k := 6) (by decide +kernel) rfl rfl
theorem r0_676 : xT d 0 676 (ls) (.int v :: st) h Q ↔ xT d 0 677 (ls) (.long v.toInt64 :: st) h Q := xT_i2l (by decide +kernel) rfl
theorem r0_677 : xT d 0 677 (ls) (.long wl :: .long vl :: st) h Q ↔ xT d 0 678 (ls) (.int (lg_cmp vl wl) :: st) h Q := xT_lcmp (by decide +kernel) rfl
theorem r0_678 (x0 : -2147483648 ≤ x) (x1 : x ≤ 2147483647) : xT d 0 678 (ls) (.int (xI x) :: st) h Q ↔ (x = 0 → xT d 0 683 (ls) (st) h Q) ∧ (¬ x = 0 → xT d 0 681 (ls) (st) h Q) := xT_ifeq (off := 5) (by decide +kernel) rfl rfl x0 x1
theorem r0_681 : xT d 0 681 (ls) (st) h Q ↔ xT d 0 682 (ls) (.int (xI 0) :: st) h Q := xT_iconst (n := 0) (by decide +kernel) rfl
theorem r0_682 (hx : x = 0 ∨ x = 1) : xT d 0 682 (ls) ([.int (xI x)]) h Q ↔ Q (h, .returned (some (.int (xI x)))) := xT_zreturn (by decide +kernel) rfl hx
theorem r0_683 : xT d 0 683 (ls) (st) h Q ↔ xT d 0 938 (ls) (st) h Q := xT_goto (off := 255) (by decide +kernel) rfl
theorem r0_686 : xT d 0 686 (l0 :: .ref ov :: ls) (st) h Q ↔ xT d 0 687 (l0 :: .ref ov :: ls) (.ref ov :: st) h Q := xT_aload_n (k := 1) (by decide +kernel) rfl rfl
theorem r0_687 : xT d 0 687 (.ref ov :: ls) (st) h Q ↔ xT d 0 688 (.ref ov :: ls) (.ref ov :: st) h Q := xT_aload_n (k := 0) (by decide +kernel) rfl rfl
theorem r0_688 : xT d 0 688 (l0 :: l1 :: l2 :: l3 :: .int v :: ls) (st) h Q ↔ xT d 0 690 (l0 :: l1 :: l2 :: l3 :: .int v :: ls) (.int v :: st) h Q := xT_iload (k := 4) (by decide +kernel) rfl rfl
theorem r0_690 : xT d 0 690 (ls) (st) h Q ↔ xT d 0 691 (ls) (.int (xI 1) :: st) h Q := xT_iconst (n := 1) (by decide +kernel) rfl
theorem r0_691 : xT d 0 691 (ls) (.int (xI y) :: .int (xI x) :: st) h Q ↔ xT d 0 692 (ls) (.int (xI (x + y)) :: st) h Q := xT_iadd (by decide +kernel) rfl
theorem r0_692 (x0 : 0 ≤ x) (x1 : x < g.1) (hL : g.1 ≤ 4000) : xT d 0 692 (ls) (.int (xI x) :: .ref 0 :: st) (hh f a g) Q ↔ xT d 0 693 (ls) (.int (xI (a 0 x)) :: st) (hh f a g) Q := xT_iaload (N := g.1) (by decide +kernel) rfl rfl (Nat.le_of_ble_eq_true rfl) x0 x1 hL
theorem r0_693 : xT d 0 693 (.ref ov :: ls) (st) h Q ↔ xT d 0 694 (.ref ov :: ls) (.ref ov :: st) h Q := xT_aload_n (k := 0) (by decide +kernel) rfl rfl
theorem r0_694 : xT d 0 694 (l0 :: l1 :: l2 :: l3 :: .int v :: ls) (st) h Q ↔ xT d 0 696 (l0 :: l1 :: l2 :: l3 :: .int v :: ls) (.int v :: st) h Q := xT_iload (k := 4) (by decide +kernel) rfl rfl
theorem r0_696 : xT d 0 696 (ls) (st) h Q ↔ xT d 0 697 (ls) (.int (xI 2) :: st) h Q := xT_iconst (n := 2) (by decide +kernel) rfl
theorem r0_697 : xT d 0 697 (ls) (.int (xI y) :: .int (xI x) :: st) h Q ↔ xT d 0 698 (ls) (.int (xI (x + y)) :: st) h Q := xT_iadd (by decide +kernel) rfl
theorem r0_698 (x0 : 0 ≤ x) (x1 : x < g.1) (hL : g.1 ≤ 4000) : xT d 0 698 (ls) (.int (xI x) :: .ref 0 :: st) (hh f a g) Q ↔ xT d 0 699 (ls) (.int (xI (a 0 x)) :: st) (hh f a g) Q := xT_iaload (N := g.1) (by decide +kernel) rfl rfl (Nat.le_of_ble_eq_true rfl) x0 x1 hL
theorem r0_699 {z0 : Int32} {z1 : Int32} {z2 : Nat} (hd : 1 ≤ d) : xT d 0 699 (ls) ([.int z0, .int z1, .ref z2]) h Q ↔ xTC (d - 1) 2 [.ref z2, .int z1, .int z0] h (xAf d 0 699 (ls) [] Q) := xT_static (k := 106) (na := 3) (by decide +kernel) (by decide +kernel) ⟨Nat.le_of_ble_eq_true rfl, Nat.le_of_ble_eq_true rfl⟩ rfl rfl (Nat.le_of_ble_eq_true rfl) (Nat.le_of_ble_eq_true rfl) hd
theorem r0_702 : xT d 0 702 ([l0, l1, l2, l3, .int w, l5, l6]) (.int v :: st) h Q ↔ xT d 0 704 ([l0, l1, l2, l3, .int w, .int v, l6]) (st) h Q := xT_istore (k := 5) (by decide +kernel) rfl (Nat.le_of_ble_eq_true rfl) rfl
theorem r0_704 : xT d 0 704 (l0 :: l1 :: .ref ov :: ls) (st) h Q ↔ xT d 0 705 (l0 :: l1 :: .ref ov :: ls) (.ref ov :: st) h Q := xT_aload_n (k := 2) (by decide +kernel) rfl rfl
theorem r0_705 : xT d 0 705 (.ref ov :: ls) (st) h Q ↔ xT d 0 706 (.ref ov :: ls) (.ref ov :: st) h Q := xT_aload_n (k := 0) (by decide +kernel) rfl rfl
theorem r0_706 : xT d 0 706 (l0 :: l1 :: l2 :: l3 :: .int v :: ls) (st) h Q ↔ xT d 0 708 (l0 :: l1 :: l2 :: l3 :: .int v :: ls) (.int v :: st) h Q := xT_iload (k := 4) (by decide +kernel) rfl rfl
theorem r0_708 : xT d 0 708 (ls) (st) h Q ↔ xT d 0 709 (ls) (.int (xI 1) :: st) h Q := xT_iconst (n := 1) (by decide +kernel) rfl
theorem r0_709 : xT d 0 709 (ls) (.int (xI y) :: .int (xI x) :: st) h Q ↔ xT d 0 710 (ls) (.int (xI (x + y)) :: st) h Q := xT_iadd (by decide +kernel) rfl
theorem r0_710 (x0 : 0 ≤ x) (x1 : x < g.1) (hL : g.1 ≤ 4000) : xT d 0 710 (ls) (.int (xI x) :: .ref 0 :: st) (hh f a g) Q ↔ xT d 0 711 (ls) (.int (xI (a 0 x)) :: st) (hh f a g) Q := xT_iaload (N := g.1) (by decide +kernel) rfl rfl (Nat.le_of_ble_eq_true rfl) x0 x1 hL
theorem r0_711 : xT d 0 711 (.ref ov :: ls) (st) h Q ↔ xT d 0 712 (.ref ov :: ls) (.ref ov :: st) h Q := xT_aload_n (k := 0) (by decide +kernel) rfl rfl
theorem r0_712 : xT d 0 712 (l0 :: l1 :: l2 :: l3 :: .int v :: ls) (st) h Q ↔ xT d 0 714 (l0 :: l1 :: l2 :: l3 :: .int v :: ls) (.int v :: st) h Q := xT_iload (k := 4) (by decide +kernel) rfl rfl
theorem r0_714 : xT d 0 714 (ls) (st) h Q ↔ xT d 0 715 (ls) (.int (xI 2) :: st) h Q := xT_iconst (n := 2) (by decide +kernel) rfl
theorem r0_715 : xT d 0 715 (ls) (.int (xI y) :: .int (xI x) :: st) h Q ↔ xT d 0 716 (ls) (.int (xI (x + y)) :: st) h Q := xT_iadd (by decide +kernel) rfl
theorem r0_716 (x0 : 0 ≤ x) (x1 : x < g.1) (hL : g.1 ≤ 4000) : xT d 0 716 (ls) (.int (xI x) :: .ref 0 :: st) (hh f a g) Q ↔ xT d 0 717 (ls) (.int (xI (a 0 x)) :: st) (hh f a g) Q := xT_iaload (N := g.1) (by decide +kernel) rfl rfl (Nat.le_of_ble_eq_true rfl) x0 x1 hL
theorem r0_717 {z0 : Int32} {z1 : Int32} (hd : 1 ≤ d) : xT d 0 717 (ls) ([.int z0, .int z1, .ref 21]) (hh f a g) Q ↔ xTC (d - 1) 156 [.ref 21, .int z1, .int z0] (hh f a g) (xAf d 0 717 (ls) [] Q) := xT_virtual (k := 109) (na := 2) (ci := 8) (by decide +kernel) (by decide +kernel) (by decide +kernel) ⟨Nat.le_of_ble_eq_true rfl, Nat.le_of_ble_eq_true rfl⟩ rfl rfl (Nat.le_of_ble_eq_true rfl) rfl rfl ⟨Nat.le_of_ble_eq_true rfl, Nat.le_of_ble_eq_true rfl⟩ (Nat.le_of_ble_eq_true rfl) hd
theorem r0_720 : xT d 0 720 (l0 :: l1 :: .ref ov :: ls) (st) h Q ↔ xT d 0 721 (l0 :: l1 :: .ref ov :: ls) (.ref ov :: st) h Q := xT_aload_n (k := 2) (by decide +kernel) rfl rfl
theorem r0_721 (hd : 1 ≤ d) : xT d 0 721 (ls) ([.ref 21]) (hh f a g) Q ↔ xTC (d - 1) 118 [.ref 21] (hh f a g) (xAf d 0 721 (ls) [] Q) := xT_virtual (k := 69) (na := 0) (ci := 8) (by decide +kernel) (by decide +kernel) (by decide +kernel) ⟨Nat.le_of_ble_eq_true rfl, Nat.le_of_ble_eq_true rfl⟩ rfl rfl (Nat.le_of_ble_eq_true rfl) rfl rfl ⟨Nat.le_of_ble_eq_true rfl, Nat.le_of_ble_eq_true rfl⟩ (Nat.le_of_ble_eq_true rfl) hd
theorem r0_724 : xT d 0 724 (l0 :: l1 :: l2 :: l3 :: l4 :: .int v :: ls) (st) h Q ↔ xT d 0 726 (l0 :: l1 :: l2 :: l3 :: l4 :: .int v :: ls) (.int v :: st) h Q := xT_iload (k := 5) (by decide +kernel) rfl rfl
theorem r0_726 (x0 : -2147483648 ≤ x) (x1 : x ≤ 2147483647) (y0 : -2147483648 ≤ y) (y1 : y ≤ 2147483647) : xT d 0 726 (ls) (.int (xI y) :: .int (xI x) :: st) h Q ↔ (x = y → xT d 0 731 (ls) (st) h Q) ∧ (¬ x = y → xT d 0 729 (ls) (st) h Q) := xT_iceq (off := 5) (by decide +kernel) rfl rfl x0 x1 y0 y1
theorem r0_729 : xT d 0 729 (ls) (st) h Q ↔ xT d 0 730 (ls) (.int (xI 0) :: st) h Q := xT_iconst (n := 0) (by decide +kernel) rfl
theorem r0_730 (hx : x = 0 ∨ x = 1) : xT d 0 730 (ls) ([.int (xI x)]) h Q ↔ Q (h, .returned (some (.int (xI x)))) := xT_zreturn (by decide +kernel) rfl hx
theorem r0_731 : xT d 0 731 (ls) (st) h Q ↔ xT d 0 938 (ls) (st) h Q := xT_goto (off := 207) (by decide +kernel) rfl
theorem r0_734 : xT d 0 734 (l0 :: .ref ov :: ls) (st) h Q ↔ xT d 0 735 (l0 :: .ref ov :: ls) (.ref ov :: st) h Q := xT_aload_n (k := 1) (by decide +kernel) rfl rfl
theorem r0_735 : xT d 0 735 (.ref ov :: ls) (st) h Q ↔ xT d 0 736 (.ref ov :: ls) (.ref ov :: st) h Q := xT_aload_n (k := 0) (by decide +kernel) rfl rfl
theorem r0_736 : xT d 0 736 (l0 :: l1 :: l2 :: l3 :: .int v :: ls) (st) h Q ↔ xT d 0 738 (l0 :: l1 :: l2 :: l3 :: .int v :: ls) (.int v :: st) h Q := xT_iload (k := 4) (by decide +kernel) rfl rfl
theorem r0_738 : xT d 0 738 (ls) (st) h Q ↔ xT d 0 739 (ls) (.int (xI 1) :: st) h Q := xT_iconst (n := 1) (by decide +kernel) rfl
theorem r0_739 : xT d 0 739 (ls) (.int (xI y) :: .int (xI x) :: st) h Q ↔ xT d 0 740 (ls) (.int (xI (x + y)) :: st) h Q := xT_iadd (by decide +kernel) rfl
theorem r0_740 (x0 : 0 ≤ x) (x1 : x < g.1) (hL : g.1 ≤ 4000) : xT d 0 740 (ls) (.int (xI x) :: .ref 0 :: st) (hh f a g) Q ↔ xT d 0 741 (ls) (.int (xI (a 0 x)) :: st) (hh f a g) Q := xT_iaload (N := g.1) (by decide +kernel) rfl rfl (Nat.le_of_ble_eq_true rfl) x0 x1 hL
theorem r0_741 : xT d 0 741 (ls) (.int v :: st) h Q ↔ xT d 0 742 (ls) (.long v.toInt64 :: st) h Q := xT_i2l (by decide +kernel) rfl
theorem r0_742 : xT d 0 742 (ls) (st) h Q ↔ xT d 0 744 (ls) (.int (xI 32) :: st) h Q := xT_bipush (n := 32) (by decide +kernel) rfl (by decide +kernel)
theorem r0_744 : xT d 0 744 (ls) (.int w :: .long vl :: st) h Q ↔ xT d 0 745 (ls) (.long (vl <<< (w.toInt64 &&& 63)) :: st) h Q := xT_lshl (by decide +kernel) rfl
theorem r0_745 : xT d 0 745 (.ref ov :: ls) (st) h Q ↔ xT d 0 746 (.ref ov :: ls) (.ref ov :: st) h Q := xT_aload_n (k := 0) (by decide +kernel) rfl rfl
theorem r0_746 : xT d 0 746 (l0 :: l1 :: l2 :: l3 :: .int v :: ls) (st) h Q ↔ xT d 0 748 (l0 :: l1 :: l2 :: l3 :: .int v :: ls) (.int v :: st) h Q := xT_iload (k := 4) (by decide +kernel) rfl rfl
theorem r0_748 : xT d 0 748 (ls) (st) h Q ↔ xT d 0 749 (ls) (.int (xI 2) :: st) h Q := xT_iconst (n := 2) (by decide +kernel) rfl
theorem r0_749 : xT d 0 749 (ls) (.int (xI y) :: .int (xI x) :: st) h Q ↔ xT d 0 750 (ls) (.int (xI (x + y)) :: st) h Q := xT_iadd (by decide +kernel) rfl
theorem r0_750 (x0 : 0 ≤ x) (x1 : x < g.1) (hL : g.1 ≤ 4000) : xT d 0 750 (ls) (.int (xI x) :: .ref 0 :: st) (hh f a g) Q ↔ xT d 0 751 (ls) (.int (xI (a 0 x)) :: st) (hh f a g) Q := xT_iaload (N := g.1) (by decide +kernel) rfl rfl (Nat.le_of_ble_eq_true rfl) x0 x1 hL
theorem r0_751 : xT d 0 751 (ls) (.int v :: st) h Q ↔ xT d 0 752 (ls) (.long v.toInt64 :: st) h Q := xT_i2l (by decide +kernel) rfl
theorem r0_752 : xT d 0 752 (ls) (st) h Q ↔ xT d 0 755 (ls) (.long 4294967295 :: st) h Q := xT_ldc2 (k := 110) (by decide +kernel) rfl (by decide +kernel)
theorem r0_755 : xT d 0 755 (ls) (.long wl :: .long vl :: st) h Q ↔ xT d 0 756 (ls) (.long (vl &&& wl) :: st) h Q := xT_land (by decide +kernel) rfl
theorem r0_756 : xT d 0 756 (ls) (.long wl :: .long vl :: st) h Q ↔ xT d 0 757 (ls) (.long (vl ||| wl) :: st) h Q := xT_lor (by decide +kernel) rfl
theorem r0_757 : xT d 0 757 (.ref ov :: ls) (st) h Q ↔ xT d 0 758 (.ref ov :: ls) (.ref ov :: st) h Q := xT_aload_n (k := 0) (by decide +kernel) rfl rfl
theorem r0_758 : xT d 0 758 (l0 :: l1 :: l2 :: l3 :: .int v :: ls) (st) h Q ↔ xT d 0 760 (l0 :: l1 :: l2 :: l3 :: .int v :: ls) (.int v :: st) h Q := xT_iload (k := 4) (by decide +kernel) rfl rfl
theorem r0_760 : xT d 0 760 (ls) (st) h Q ↔ xT d 0 761 (ls) (.int (xI 3) :: st) h Q := xT_iconst (n := 3) (by decide +kernel) rfl
theorem r0_761 : xT d 0 761 (ls) (.int (xI y) :: .int (xI x) :: st) h Q ↔ xT d 0 762 (ls) (.int (xI (x + y)) :: st) h Q := xT_iadd (by decide +kernel) rfl
theorem r0_762 (x0 : 0 ≤ x) (x1 : x < g.1) (hL : g.1 ≤ 4000) : xT d 0 762 (ls) (.int (xI x) :: .ref 0 :: st) (hh f a g) Q ↔ xT d 0 763 (ls) (.int (xI (a 0 x)) :: st) (hh f a g) Q := xT_iaload (N := g.1) (by decide +kernel) rfl rfl (Nat.le_of_ble_eq_true rfl) x0 x1 hL
theorem r0_763 : xT d 0 763 (l0 :: l1 :: l2 :: .ref ov :: ls) (st) h Q ↔ xT d 0 764 (l0 :: l1 :: l2 :: .ref ov :: ls) (.ref ov :: st) h Q := xT_aload_n (k := 3) (by decide +kernel) rfl rfl
theorem r0_764 {z0 : Nat} {z1 : Int32} {z2 : Int64} {z3 : Nat} (hd : 1 ≤ d) : xT d 0 764 (ls) ([.ref z0, .int z1, .long z2, .ref z3]) h Q ↔ xTC (d - 1) 3 [.ref z3, .long z2, .int z1, .ref z0] h (xAf d 0 764 (ls) [] Q) := xT_static (k := 112) (na := 4) (by decide +kernel) (by decide +kernel) ⟨Nat.le_of_ble_eq_true rfl, Nat.le_of_ble_eq_true rfl⟩ rfl rfl (Nat.le_of_ble_eq_true rfl) (Nat.le_of_ble_eq_true rfl) hd
theorem r0_767 : xT d 0 767 ([l0, l1, l2, l3, .int w, l5, l6]) (.int v :: st) h Q ↔ xT d 0 769 ([l0, l1, l2, l3, .int w, .int v, l6]) (st) h Q := xT_istore (k := 5) (by decide +kernel) rfl (Nat.le_of_ble_eq_true rfl) rfl
theorem r0_769 : xT d 0 769 (l0 :: l1 :: .ref ov :: ls) (st) h Q ↔ xT d 0 770 (l0 :: l1 :: .ref ov :: ls) (.ref ov :: st) h Q := xT_aload_n (k := 2) (by decide +kernel) rfl rfl
theorem r0_770 : xT d 0 770 (.ref ov :: ls) (st) h Q ↔ xT d 0 771 (.ref ov :: ls) (.ref ov :: st) h Q := xT_aload_n (k := 0) (by decide +kernel) rfl rfl
theorem r0_771 : xT d 0 771 (l0 :: l1 :: l2 :: l3 :: .int v :: ls) (st) h Q ↔ xT d 0 773 (l0 :: l1 :: l2 :: l3 :: .int v :: ls) (.int v :: st) h Q := xT_iload (k := 4) (by decide +kernel) rfl rfl
theorem r0_773 : xT d 0 773 (ls) (st) h Q ↔ xT d 0 774 (ls) (.int (xI 1) :: st) h Q := xT_iconst (n := 1) (by decide +kernel) rfl
theorem r0_774 : xT d 0 774 (ls) (.int (xI y) :: .int (xI x) :: st) h Q ↔ xT d 0 775 (ls) (.int (xI (x + y)) :: st) h Q := xT_iadd (by decide +kernel) rfl
theorem r0_775 (x0 : 0 ≤ x) (x1 : x < g.1) (hL : g.1 ≤ 4000) : xT d 0 775 (ls) (.int (xI x) :: .ref 0 :: st) (hh f a g) Q ↔ xT d 0 776 (ls) (.int (xI (a 0 x)) :: st) (hh f a g) Q := xT_iaload (N := g.1) (by decide +kernel) rfl rfl (Nat.le_of_ble_eq_true rfl) x0 x1 hL
theorem r0_776 : xT d 0 776 (ls) (.int v :: st) h Q ↔ xT d 0 777 (ls) (.long v.toInt64 :: st) h Q := xT_i2l (by decide +kernel) rfl
theorem r0_777 : xT d 0 777 (ls) (st) h Q ↔ xT d 0 779 (ls) (.int (xI 32) :: st) h Q := xT_bipush (n := 32) (by decide +kernel) rfl (by decide +kernel)
theorem r0_779 : xT d 0 779 (ls) (.int w :: .long vl :: st) h Q ↔ xT d 0 780 (ls) (.long (vl <<< (w.toInt64 &&& 63)) :: st) h Q := xT_lshl (by decide +kernel) rfl
theorem r0_780 : xT d 0 780 (.ref ov :: ls) (st) h Q ↔ xT d 0 781 (.ref ov :: ls) (.ref ov :: st) h Q := xT_aload_n (k := 0) (by decide +kernel) rfl rfl
theorem r0_781 : xT d 0 781 (l0 :: l1 :: l2 :: l3 :: .int v :: ls) (st) h Q ↔ xT d 0 783 (l0 :: l1 :: l2 :: l3 :: .int v :: ls) (.int v :: st) h Q := xT_iload (k := 4) (by decide +kernel) rfl rfl
theorem r0_783 : xT d 0 783 (ls) (st) h Q ↔ xT d 0 784 (ls) (.int (xI 2) :: st) h Q := xT_iconst (n := 2) (by decide +kernel) rfl
theorem r0_784 : xT d 0 784 (ls) (.int (xI y) :: .int (xI x) :: st) h Q ↔ xT d 0 785 (ls) (.int (xI (x + y)) :: st) h Q := xT_iadd (by decide +kernel) rfl
theorem r0_785 (x0 : 0 ≤ x) (x1 : x < g.1) (hL : g.1 ≤ 4000) : xT d 0 785 (ls) (.int (xI x) :: .ref 0 :: st) (hh f a g) Q ↔ xT d 0 786 (ls) (.int (xI (a 0 x)) :: st) (hh f a g) Q := xT_iaload (N := g.1) (by decide +kernel) rfl rfl (Nat.le_of_ble_eq_true rfl) x0 x1 hL
theorem r0_786 : xT d 0 786 (ls) (.int v :: st) h Q ↔ xT d 0 787 (ls) (.long v.toInt64 :: st) h Q := xT_i2l (by decide +kernel) rfl
theorem r0_787 : xT d 0 787 (ls) (st) h Q ↔ xT d 0 790 (ls) (.long 4294967295 :: st) h Q := xT_ldc2 (k := 110) (by decide +kernel) rfl (by decide +kernel)
theorem r0_790 : xT d 0 790 (ls) (.long wl :: .long vl :: st) h Q ↔ xT d 0 791 (ls) (.long (vl &&& wl) :: st) h Q := xT_land (by decide +kernel) rfl
theorem r0_791 : xT d 0 791 (ls) (.long wl :: .long vl :: st) h Q ↔ xT d 0 792 (ls) (.long (vl ||| wl) :: st) h Q := xT_lor (by decide +kernel) rfl
theorem r0_792 : xT d 0 792 (.ref ov :: ls) (st) h Q ↔ xT d 0 793 (.ref ov :: ls) (.ref ov :: st) h Q := xT_aload_n (k := 0) (by decide +kernel) rfl rfl
theorem r0_793 : xT d 0 793 (l0 :: l1 :: l2 :: l3 :: .int v :: ls) (st) h Q ↔ xT d 0 795 (l0 :: l1 :: l2 :: l3 :: .int v :: ls) (.int v :: st) h Q := xT_iload (k := 4) (by decide +kernel) rfl rfl
theorem r0_795 : xT d 0 795 (ls) (st) h Q ↔ xT d 0 796 (ls) (.int (xI 3) :: st) h Q := xT_iconst (n := 3) (by decide +kernel) rfl
theorem r0_796 : xT d 0 796 (ls) (.int (xI y) :: .int (xI x) :: st) h Q ↔ xT d 0 797 (ls) (.int (xI (x + y)) :: st) h Q := xT_iadd (by decide +kernel) rfl
theorem r0_797 (x0 : 0 ≤ x) (x1 : x < g.1) (hL : g.1 ≤ 4000) : xT d 0 797 (ls) (.int (xI x) :: .ref 0 :: st) (hh f a g) Q ↔ xT d 0 798 (ls) (.int (xI (a 0 x)) :: st) (hh f a g) Q := xT_iaload (N := g.1) (by decide +kernel) rfl rfl (Nat.le_of_ble_eq_true rfl) x0 x1 hL
theorem r0_798 {z0 : Int32} {z1 : Int64} (hd : 1 ≤ d) : xT d 0 798 (ls) ([.int z0, .long z1, .ref 21]) (hh f a g) Q ↔ xTC (d - 1) 157 [.ref 21, .long z1, .int z0] (hh f a g) (xAf d 0 798 (ls) [] Q) := xT_virtual (k := 115) (na := 2) (ci := 8) (by decide +kernel) (by decide +kernel) (by decide +kernel) ⟨Nat.le_of_ble_eq_true rfl, Nat.le_of_ble_eq_true rfl⟩ rfl rfl (Nat.le_of_ble_eq_true rfl) rfl rfl ⟨Nat.le_of_ble_eq_true rfl, Nat.le_of_ble_eq_true rfl⟩ (Nat.le_of_ble_eq_true rfl) hd
theorem r0_801 : xT d 0 801 ([l0, l1, l2, l3, l4, .int w, l6]) (.int v :: st) h Q ↔ xT d 0 803 ([l0, l1, l2, l3, l4, .int w, .int v]) (st) h Q := xT_istore (k := 6) (by decide +kernel) rfl (Nat.le_of_ble_eq_true rfl) rfl
theorem r0_803 : xT d 0 803 (l0 :: l1 :: .ref ov :: ls) (st) h Q ↔ xT d 0 804 (l0 :: l1 :: .ref ov :: ls) (.ref ov :: st) h Q := xT_aload_n (k := 2) (by decide +kernel) rfl rfl
theorem r0_804 (hd : 1 ≤ d) : xT d 0 804 (ls) ([.ref 21]) (hh f a g) Q ↔ xTC (d - 1) 118 [.ref 21] (hh f a g) (xAf d 0 804 (ls) [] Q) := xT_virtual (k := 69) (na := 0) (ci := 8) (by decide +kernel) (by decide +kernel) (by decide +kernel) ⟨Nat.le_of_ble_eq_true rfl, Nat.le_of_ble_eq_true rfl⟩ rfl rfl (Nat.le_of_ble_eq_true rfl) rfl rfl ⟨Nat.le_of_ble_eq_true rfl, Nat.le_of_ble_eq_true rfl⟩ (Nat.le_of_ble_eq_true rfl) hd
theorem r0_807 : xT d 0 807 (l0 :: l1 :: l2 :: l3 :: l4 :: .int v :: ls) (st) h Q ↔ xT d 0 809 (l0 :: l1 :: l2 :: l3 :: l4 :: .int v :: ls) (.int v :: st) h Q := xT_iload (k := 5) (by decide +kernel) rfl rfl
theorem r0_809 (x0 : -2147483648 ≤ x) (x1 : x ≤ 2147483647) (y0 : -2147483648 ≤ y) (y1 : y ≤ 2147483647) : xT d 0 809 (ls) (.int (xI y) :: .int (xI x) :: st) h Q ↔ (x = y → xT d 0 814 (ls) (st) h Q) ∧ (¬ x = y → xT d 0 812 (ls) (st) h Q) := xT_iceq (off := 5) (by decide +kernel) rfl rfl x0 x1 y0 y1
theorem r0_812 : xT d 0 812 (ls) (st) h Q ↔ xT d 0 813 (ls) (.int (xI 0) :: st) h Q := xT_iconst (n := 0) (by decide +kernel) rfl
theorem r0_813 (hx : x = 0 ∨ x = 1) : xT d 0 813 (ls) ([.int (xI x)]) h Q ↔ Q (h, .returned (some (.int (xI x)))) := xT_zreturn (by decide +kernel) rfl hx
theorem r0_814 : xT d 0 814 (l0 :: l1 :: l2 :: l3 :: l4 :: .int v :: ls) (st) h Q ↔ xT d 0 816 (l0 :: l1 :: l2 :: l3 :: l4 :: .int v :: ls) (.int v :: st) h Q := xT_iload (k := 5) (by decide +kernel) rfl rfl
theorem r0_816 (x0 : -2147483648 ≤ x) (x1 : x ≤ 2147483647) : xT d 0 816 (ls) (.int (xI x) :: st) h Q ↔ (x = 0 → xT d 0 819 (ls) (st) h Q) ∧ (¬ x = 0 → xT d 0 831 (ls) (st) h Q) := xT_ifne (off := 15) (by decide +kernel) rfl rfl x0 x1
theorem r0_819 : xT d 0 819 (l0 :: l1 :: l2 :: .ref ov :: ls) (st) h Q ↔ xT d 0 820 (l0 :: l1 :: l2 :: .ref ov :: ls) (.ref ov :: st) h Q := xT_aload_n (k := 3) (by decide +kernel) rfl rfl
theorem r0_820 : xT d 0 820 (ls) (st) h Q ↔ xT d 0 821 (ls) (.int (xI 0) :: st) h Q := xT_iconst (n := 0) (by decide +kernel) rfl
theorem r0_822 : xT d 0 822 (l0 :: l1 :: l2 :: l3 :: l4 :: l5 :: .int v :: ls) (st) h Q ↔ xT d 0 824 (l0 :: l1 :: l2 :: l3 :: l4 :: l5 :: .int v :: ls) (.int v :: st) h Q := xT_iload (k := 6) (by decide +kernel) rfl rfl
theorem r0_824 : xT d 0 824 (ls) (.int v :: st) h Q ↔ xT d 0 825 (ls) (.long v.toInt64 :: st) h Q := xT_i2l (by decide +kernel) rfl
theorem r0_825 : xT d 0 825 (ls) (.long wl :: .long vl :: st) h Q ↔ xT d 0 826 (ls) (.int (lg_cmp vl wl) :: st) h Q := xT_lcmp (by decide +kernel) rfl
theorem r0_826 (x0 : -2147483648 ≤ x) (x1 : x ≤ 2147483647) : xT d 0 826 (ls) (.int (xI x) :: st) h Q ↔ (x = 0 → xT d 0 831 (ls) (st) h Q) ∧ (¬ x = 0 → xT d 0 829 (ls) (st) h Q) := xT_ifeq (off := 5) (by decide +kernel) rfl rfl x0 x1
theorem r0_829 : xT d 0 829 (ls) (st) h Q ↔ xT d 0 830 (ls) (.int (xI 0) :: st) h Q := xT_iconst (n := 0) (by decide +kernel) rfl
theorem r0_830 (hx : x = 0 ∨ x = 1) : xT d 0 830 (ls) ([.int (xI x)]) h Q ↔ Q (h, .returned (some (.int (xI x)))) := xT_zreturn (by decide +kernel) rfl hx
theorem r0_831 : xT d 0 831 (ls) (st) h Q ↔ xT d 0 938 (ls) (st) h Q := xT_goto (off := 107) (by decide +kernel) rfl
theorem r0_834 : xT d 0 834 (l0 :: .ref ov :: ls) (st) h Q ↔ xT d 0 835 (l0 :: .ref ov :: ls) (.ref ov :: st) h Q := xT_aload_n (k := 1) (by decide +kernel) rfl rfl
theorem r0_835 : xT d 0 835 (.ref ov :: ls) (st) h Q ↔ xT d 0 836 (.ref ov :: ls) (.ref ov :: st) h Q := xT_aload_n (k := 0) (by decide +kernel) rfl rfl
theorem r0_836 : xT d 0 836 (l0 :: l1 :: l2 :: l3 :: .int v :: ls) (st) h Q ↔ xT d 0 838 (l0 :: l1 :: l2 :: l3 :: .int v :: ls) (.int v :: st) h Q := xT_iload (k := 4) (by decide +kernel) rfl rfl
theorem r0_838 : xT d 0 838 (ls) (st) h Q ↔ xT d 0 839 (ls) (.int (xI 1) :: st) h Q := xT_iconst (n := 1) (by decide +kernel) rfl
theorem r0_839 : xT d 0 839 (ls) (.int (xI y) :: .int (xI x) :: st) h Q ↔ xT d 0 840 (ls) (.int (xI (x + y)) :: st) h Q := xT_iadd (by decide +kernel) rfl
theorem r0_840 (x0 : 0 ≤ x) (x1 : x < g.1) (hL : g.1 ≤ 4000) : xT d 0 840 (ls) (.int (xI x) :: .ref 0 :: st) (hh f a g) Q ↔ xT d 0 841 (ls) (.int (xI (a 0 x)) :: st) (hh f a g) Q := xT_iaload (N := g.1) (by decide +kernel) rfl rfl (Nat.le_of_ble_eq_true rfl) x0 x1 hL
theorem r0_841 {z0 : Int32} {z1 : Nat} (hd : 1 ≤ d) : xT d 0 841 (ls) ([.int z0, .ref z1]) h Q ↔ xTC (d - 1) 4 [.ref z1, .int z0] h (xAf d 0 841 (ls) [] Q) := xT_static (k := 116) (na := 2) (by decide +kernel) (by decide +kernel) ⟨Nat.le_of_ble_eq_true rfl, Nat.le_of_ble_eq_true rfl⟩ rfl rfl (Nat.le_of_ble_eq_true rfl) (Nat.le_of_ble_eq_true rfl) hd
theorem r0_844 : xT d 0 844 ([l0, l1, l2, l3, .int w, l5, l6]) (.int v :: st) h Q ↔ xT d 0 846 ([l0, l1, l2, l3, .int w, .int v, l6]) (st) h Q := xT_istore (k := 5) (by decide +kernel) rfl (Nat.le_of_ble_eq_true rfl) rfl
theorem r0_846 : xT d 0 846 (l0 :: l1 :: .ref ov :: ls) (st) h Q ↔ xT d 0 847 (l0 :: l1 :: .ref ov :: ls) (.ref ov :: st) h Q := xT_aload_n (k := 2) (by decide +kernel) rfl rfl
theorem r0_847 : xT d 0 847 (.ref ov :: ls) (st) h Q ↔ xT d 0 848 (.ref ov :: ls) (.ref ov :: st) h Q := xT_aload_n (k := 0) (by decide +kernel) rfl rfl
theorem r0_848 : xT d 0 848 (l0 :: l1 :: l2 :: l3 :: .int v :: ls) (st) h Q ↔ xT d 0 850 (l0 :: l1 :: l2 :: l3 :: .int v :: ls) (.int v :: st) h Q := xT_iload (k := 4) (by decide +kernel) rfl rfl
theorem r0_850 : xT d 0 850 (ls) (st) h Q ↔ xT d 0 851 (ls) (.int (xI 1) :: st) h Q := xT_iconst (n := 1) (by decide +kernel) rfl
theorem r0_851 : xT d 0 851 (ls) (.int (xI y) :: .int (xI x) :: st) h Q ↔ xT d 0 852 (ls) (.int (xI (x + y)) :: st) h Q := xT_iadd (by decide +kernel) rfl
theorem r0_852 (x0 : 0 ≤ x) (x1 : x < g.1) (hL : g.1 ≤ 4000) : xT d 0 852 (ls) (.int (xI x) :: .ref 0 :: st) (hh f a g) Q ↔ xT d 0 853 (ls) (.int (xI (a 0 x)) :: st) (hh f a g) Q := xT_iaload (N := g.1) (by decide +kernel) rfl rfl (Nat.le_of_ble_eq_true rfl) x0 x1 hL
theorem r0_853 {z0 : Int32} (hd : 1 ≤ d) : xT d 0 853 (ls) ([.int z0, .ref 21]) (hh f a g) Q ↔ xTC (d - 1) 158 [.ref 21, .int z0] (hh f a g) (xAf d 0 853 (ls) [] Q) := xT_virtual (k := 119) (na := 1) (ci := 8) (by decide +kernel) (by decide +kernel) (by decide +kernel) ⟨Nat.le_of_ble_eq_true rfl, Nat.le_of_ble_eq_true rfl⟩ rfl rfl (Nat.le_of_ble_eq_true rfl) rfl rfl ⟨Nat.le_of_ble_eq_true rfl, Nat.le_of_ble_eq_true rfl⟩ (Nat.le_of_ble_eq_true rfl) hd
theorem r0_856 : xT d 0 856 (l0 :: l1 :: .ref ov :: ls) (st) h Q ↔ xT d 0 857 (l0 :: l1 :: .ref ov :: ls) (.ref ov :: st) h Q := xT_aload_n (k := 2) (by decide +kernel) rfl rfl
theorem r0_857 (hd : 1 ≤ d) : xT d 0 857 (ls) ([.ref 21]) (hh f a g) Q ↔ xTC (d - 1) 118 [.ref 21] (hh f a g) (xAf d 0 857 (ls) [] Q) := xT_virtual (k := 69) (na := 0) (ci := 8) (by decide +kernel) (by decide +kernel) (by decide +kernel) ⟨Nat.le_of_ble_eq_true rfl, Nat.le_of_ble_eq_true rfl⟩ rfl rfl (Nat.le_of_ble_eq_true rfl) rfl rfl ⟨Nat.le_of_ble_eq_true rfl, Nat.le_of_ble_eq_true rfl⟩ (Nat.le_of_ble_eq_true rfl) hd
theorem r0_860 : xT d 0 860 (l0 :: l1 :: l2 :: l3 :: l4 :: .int v :: ls) (st) h Q ↔ xT d 0 862 (l0 :: l1 :: l2 :: l3 :: l4 :: .int v :: ls) (.int v :: st) h Q := xT_iload (k := 5) (by decide +kernel) rfl rfl
theorem r0_862 (x0 : -2147483648 ≤ x) (x1 : x ≤ 2147483647) (y0 : -2147483648 ≤ y) (y1 : y ≤ 2147483647) : xT d 0 862 (ls) (.int (xI y) :: .int (xI x) :: st) h Q ↔ (x = y → xT d 0 867 (ls) (st) h Q) ∧ (¬ x = y → xT d 0 865 (ls) (st) h Q) := xT_iceq (off := 5) (by decide +kernel) rfl rfl x0 x1 y0 y1
theorem r0_865 : xT d 0 865 (ls) (st) h Q ↔ xT d 0 866 (ls) (.int (xI 0) :: st) h Q := xT_iconst (n := 0) (by decide +kernel) rfl
theorem r0_866 (hx : x = 0 ∨ x = 1) : xT d 0 866 (ls) ([.int (xI x)]) h Q ↔ Q (h, .returned (some (.int (xI x)))) := xT_zreturn (by decide +kernel) rfl hx
theorem r0_867 : xT d 0 867 (ls) (st) h Q ↔ xT d 0 938 (ls) (st) h Q := xT_goto (off := 71) (by decide +kernel) rfl
theorem r0_870 : xT d 0 870 (l0 :: .ref ov :: ls) (st) h Q ↔ xT d 0 871 (l0 :: .ref ov :: ls) (.ref ov :: st) h Q := xT_aload_n (k := 1) (by decide +kernel) rfl rfl
theorem r0_871 : xT d 0 871 (.ref ov :: ls) (st) h Q ↔ xT d 0 872 (.ref ov :: ls) (.ref ov :: st) h Q := xT_aload_n (k := 0) (by decide +kernel) rfl rfl
theorem r0_872 : xT d 0 872 (l0 :: l1 :: l2 :: l3 :: .int v :: ls) (st) h Q ↔ xT d 0 874 (l0 :: l1 :: l2 :: l3 :: .int v :: ls) (.int v :: st) h Q := xT_iload (k := 4) (by decide +kernel) rfl rfl
theorem r0_874 : xT d 0 874 (ls) (st) h Q ↔ xT d 0 875 (ls) (.int (xI 1) :: st) h Q := xT_iconst (n := 1) (by decide +kernel) rfl
theorem r0_875 : xT d 0 875 (ls) (.int (xI y) :: .int (xI x) :: st) h Q ↔ xT d 0 876 (ls) (.int (xI (x + y)) :: st) h Q := xT_iadd (by decide +kernel) rfl
theorem r0_876 (x0 : 0 ≤ x) (x1 : x < g.1) (hL : g.1 ≤ 4000) : xT d 0 876 (ls) (.int (xI x) :: .ref 0 :: st) (hh f a g) Q ↔ xT d 0 877 (ls) (.int (xI (a 0 x)) :: st) (hh f a g) Q := xT_iaload (N := g.1) (by decide +kernel) rfl rfl (Nat.le_of_ble_eq_true rfl) x0 x1 hL
theorem r0_877 : xT d 0 877 (.ref ov :: ls) (st) h Q ↔ xT d 0 878 (.ref ov :: ls) (.ref ov :: st) h Q := xT_aload_n (k := 0) (by decide +kernel) rfl rfl
theorem r0_878 : xT d 0 878 (l0 :: l1 :: l2 :: l3 :: .int v :: ls) (st) h Q ↔ xT d 0 880 (l0 :: l1 :: l2 :: l3 :: .int v :: ls) (.int v :: st) h Q := xT_iload (k := 4) (by decide +kernel) rfl rfl
theorem r0_880 : xT d 0 880 (ls) (st) h Q ↔ xT d 0 881 (ls) (.int (xI 2) :: st) h Q := xT_iconst (n := 2) (by decide +kernel) rfl
theorem r0_881 : xT d 0 881 (ls) (.int (xI y) :: .int (xI x) :: st) h Q ↔ xT d 0 882 (ls) (.int (xI (x + y)) :: st) h Q := xT_iadd (by decide +kernel) rfl
theorem r0_882 (x0 : 0 ≤ x) (x1 : x < g.1) (hL : g.1 ≤ 4000) : xT d 0 882 (ls) (.int (xI x) :: .ref 0 :: st) (hh f a g) Q ↔ xT d 0 883 (ls) (.int (xI (a 0 x)) :: st) (hh f a g) Q := xT_iaload (N := g.1) (by decide +kernel) rfl rfl (Nat.le_of_ble_eq_true rfl) x0 x1 hL
theorem r0_883 : xT d 0 883 (l0 :: l1 :: l2 :: .ref ov :: ls) (st) h Q ↔ xT d 0 884 (l0 :: l1 :: l2 :: .ref ov :: ls) (.ref ov :: st) h Q := xT_aload_n (k := 3) (by decide +kernel) rfl rfl
theorem r0_884 {z0 : Nat} {z1 : Int32} {z2 : Int32} {z3 : Nat} (hd : 1 ≤ d) : xT d 0 884 (ls) ([.ref z0, .int z1, .int z2, .ref z3]) h Q ↔ xTC (d - 1) 5 [.ref z3, .int z2, .int z1, .ref z0] h (xAf d 0 884 (ls) [] Q) := xT_static (k := 120) (na := 4) (by decide +kernel) (by decide +kernel) ⟨Nat.le_of_ble_eq_true rfl, Nat.le_of_ble_eq_true rfl⟩ rfl rfl (Nat.le_of_ble_eq_true rfl) (Nat.le_of_ble_eq_true rfl) hd
theorem r0_887 : xT d 0 887 ([l0, l1, l2, l3, .int w, l5, l6]) (.int v :: st) h Q ↔ xT d 0 889 ([l0, l1, l2, l3, .int w, .int v, l6]) (st) h Q := xT_istore (k := 5) (by decide +kernel) rfl (Nat.le_of_ble_eq_true rfl) rfl
theorem r0_889 : xT d 0 889 (l0 :: l1 :: .ref ov :: ls) (st) h Q ↔ xT d 0 890 (l0 :: l1 :: .ref ov :: ls) (.ref ov :: st) h Q := xT_aload_n (k := 2) (by decide +kernel) rfl rfl
theorem r0_890 : xT d 0 890 (.ref ov :: ls) (st) h Q ↔ xT d 0 891 (.ref ov :: ls) (.ref ov :: st) h Q := xT_aload_n (k := 0) (by decide +kernel) rfl rfl
theorem r0_891 : xT d 0 891 (l0 :: l1 :: l2 :: l3 :: .int v :: ls) (st) h Q ↔ xT d 0 893 (l0 :: l1 :: l2 :: l3 :: .int v :: ls) (.int v :: st) h Q := xT_iload (k := 4) (by decide +kernel) rfl rfl
theorem r0_893 : xT d 0 893 (ls) (st) h Q ↔ xT d 0 894 (ls) (.int (xI 1) :: st) h Q := xT_iconst (n := 1) (by decide +kernel) rfl
theorem r0_894 : xT d 0 894 (ls) (.int (xI y) :: .int (xI x) :: st) h Q ↔ xT d 0 895 (ls) (.int (xI (x + y)) :: st) h Q := xT_iadd (by decide +kernel) rfl
theorem r0_895 (x0 : 0 ≤ x) (x1 : x < g.1) (hL : g.1 ≤ 4000) : xT d 0 895 (ls) (.int (xI x) :: .ref 0 :: st) (hh f a g) Q ↔ xT d 0 896 (ls) (.int (xI (a 0 x)) :: st) (hh f a g) Q := xT_iaload (N := g.1) (by decide +kernel) rfl rfl (Nat.le_of_ble_eq_true rfl) x0 x1 hL
theorem r0_896 : xT d 0 896 (.ref ov :: ls) (st) h Q ↔ xT d 0 897 (.ref ov :: ls) (.ref ov :: st) h Q := xT_aload_n (k := 0) (by decide +kernel) rfl rfl
theorem r0_897 : xT d 0 897 (l0 :: l1 :: l2 :: l3 :: .int v :: ls) (st) h Q ↔ xT d 0 899 (l0 :: l1 :: l2 :: l3 :: .int v :: ls) (.int v :: st) h Q := xT_iload (k := 4) (by decide +kernel) rfl rfl
theorem r0_899 : xT d 0 899 (ls) (st) h Q ↔ xT d 0 900 (ls) (.int (xI 2) :: st) h Q := xT_iconst (n := 2) (by decide +kernel) rfl
theorem r0_900 : xT d 0 900 (ls) (.int (xI y) :: .int (xI x) :: st) h Q ↔ xT d 0 901 (ls) (.int (xI (x + y)) :: st) h Q := xT_iadd (by decide +kernel) rfl
theorem r0_901 (x0 : 0 ≤ x) (x1 : x < g.1) (hL : g.1 ≤ 4000) : xT d 0 901 (ls) (.int (xI x) :: .ref 0 :: st) (hh f a g) Q ↔ xT d 0 902 (ls) (.int (xI (a 0 x)) :: st) (hh f a g) Q := xT_iaload (N := g.1) (by decide +kernel) rfl rfl (Nat.le_of_ble_eq_true rfl) x0 x1 hL
theorem r0_902 {z0 : Int32} {z1 : Int32} (hd : 1 ≤ d) : xT d 0 902 (ls) ([.int z0, .int z1, .ref 21]) (hh f a g) Q ↔ xTC (d - 1) 131 [.ref 21, .int z1, .int z0] (hh f a g) (xAf d 0 902 (ls) [] Q) := xT_virtual (k := 122) (na := 2) (ci := 8) (by decide +kernel) (by decide +kernel) (by decide +kernel) ⟨Nat.le_of_ble_eq_true rfl, Nat.le_of_ble_eq_true rfl⟩ rfl rfl (Nat.le_of_ble_eq_true rfl) rfl rfl ⟨Nat.le_of_ble_eq_true rfl, Nat.le_of_ble_eq_true rfl⟩ (Nat.le_of_ble_eq_true rfl) hd
theorem r0_905 : xT d 0 905 ([l0, l1, l2, l3, l4, .int w, l6]) (.int v :: st) h Q ↔ xT d 0 907 ([l0, l1, l2, l3, l4, .int w, .int v]) (st) h Q := xT_istore (k := 6) (by decide +kernel) rfl (Nat.le_of_ble_eq_true rfl) rfl
theorem r0_907 : xT d 0 907 (l0 :: l1 :: .ref ov :: ls) (st) h Q ↔ xT d 0 908 (l0 :: l1 :: .ref ov :: ls) (.ref ov :: st) h Q := xT_aload_n (k := 2) (by decide +kernel) rfl rfl
theorem r0_908 (hd : 1 ≤ d) : xT d 0 908 (ls) ([.ref 21]) (hh f a g) Q ↔ xTC (d - 1) 118 [.ref 21] (hh f a g) (xAf d 0 908 (ls) [] Q) := xT_virtual (k := 69) (na := 0) (ci := 8) (by decide +kernel) (by decide +kernel) (by decide +kernel) ⟨Nat.le_of_ble_eq_true rfl, Nat.le_of_ble_eq_true rfl⟩ rfl rfl (Nat.le_of_ble_eq_true rfl) rfl rfl ⟨Nat.le_of_ble_eq_true rfl, Nat.le_of_ble_eq_true rfl⟩ (Nat.le_of_ble_eq_true rfl) hd
theorem r0_911 : xT d 0 911 (l0 :: l1 :: l2 :: l3 :: l4 :: .int v :: ls) (st) h Q ↔ xT d 0 913 (l0 :: l1 :: l2 :: l3 :: l4 :: .int v :: ls) (.int v :: st) h Q := xT_iload (k := 5) (by decide +kernel) rfl rfl
theorem r0_913 (x0 : -2147483648 ≤ x) (x1 : x ≤ 2147483647) (y0 : -2147483648 ≤ y) (y1 : y ≤ 2147483647) : xT d 0 913 (ls) (.int (xI y) :: .int (xI x) :: st) h Q ↔ (x = y → xT d 0 918 (ls) (st) h Q) ∧ (¬ x = y → xT d 0 916 (ls) (st) h Q) := xT_iceq (off := 5) (by decide +kernel) rfl rfl x0 x1 y0 y1
theorem r0_916 : xT d 0 916 (ls) (st) h Q ↔ xT d 0 917 (ls) (.int (xI 0) :: st) h Q := xT_iconst (n := 0) (by decide +kernel) rfl
theorem r0_917 (hx : x = 0 ∨ x = 1) : xT d 0 917 (ls) ([.int (xI x)]) h Q ↔ Q (h, .returned (some (.int (xI x)))) := xT_zreturn (by decide +kernel) rfl hx
theorem r0_918 : xT d 0 918 (l0 :: l1 :: l2 :: l3 :: l4 :: .int v :: ls) (st) h Q ↔ xT d 0 920 (l0 :: l1 :: l2 :: l3 :: l4 :: .int v :: ls) (.int v :: st) h Q := xT_iload (k := 5) (by decide +kernel) rfl rfl
theorem r0_920 (x0 : -2147483648 ≤ x) (x1 : x ≤ 2147483647) : xT d 0 920 (ls) (.int (xI x) :: st) h Q ↔ (x = 0 → xT d 0 923 (ls) (st) h Q) ∧ (¬ x = 0 → xT d 0 935 (ls) (st) h Q) := xT_ifne (off := 15) (by decide +kernel) rfl rfl x0 x1
theorem r0_923 : xT d 0 923 (l0 :: l1 :: l2 :: .ref ov :: ls) (st) h Q ↔ xT d 0 924 (l0 :: l1 :: l2 :: .ref ov :: ls) (.ref ov :: st) h Q := xT_aload_n (k := 3) (by decide +kernel) rfl rfl
theorem r0_924 : xT d 0 924 (ls) (st) h Q ↔ xT d 0 925 (ls) (.int (xI 0) :: st) h Q := xT_iconst (n := 0) (by decide +kernel) rfl
theorem r0_926 : xT d 0 926 (l0 :: l1 :: l2 :: l3 :: l4 :: l5 :: .int v :: ls) (st) h Q ↔ xT d 0 928 (l0 :: l1 :: l2 :: l3 :: l4 :: l5 :: .int v :: ls) (.int v :: st) h Q := xT_iload (k := 6) (by decide +kernel) rfl rfl
theorem r0_928 : xT d 0 928 (ls) (.int v :: st) h Q ↔ xT d 0 929 (ls) (.long v.toInt64 :: st) h Q := xT_i2l (by decide +kernel) rfl
theorem r0_929 : xT d 0 929 (ls) (.long wl :: .long vl :: st) h Q ↔ xT d 0 930 (ls) (.int (lg_cmp vl wl) :: st) h Q := xT_lcmp (by decide +kernel) rfl
theorem r0_930 (x0 : -2147483648 ≤ x) (x1 : x ≤ 2147483647) : xT d 0 930 (ls) (.int (xI x) :: st) h Q ↔ (x = 0 → xT d 0 935 (ls) (st) h Q) ∧ (¬ x = 0 → xT d 0 933 (ls) (st) h Q) := xT_ifeq (off := 5) (by decide +kernel) rfl rfl x0 x1
theorem r0_933 : xT d 0 933 (ls) (st) h Q ↔ xT d 0 934 (ls) (.int (xI 0) :: st) h Q := xT_iconst (n := 0) (by decide +kernel) rfl
theorem r0_934 (hx : x = 0 ∨ x = 1) : xT d 0 934 (ls) ([.int (xI x)]) h Q ↔ Q (h, .returned (some (.int (xI x)))) := xT_zreturn (by decide +kernel) rfl hx
theorem r0_935 : xT d 0 935 (ls) (st) h Q ↔ xT d 0 938 (ls) (st) h Q := xT_goto (off := 3) (by decide +kernel) rfl
theorem r0_938 : xT d 0 938 ([l0, l1, l2, .ref ow, .int (xI x), l5, l6]) (st) h Q ↔ xT d 0 941 ([l0, l1, l2, .ref ow, .int (xI (x + 6)), l5, l6]) (st) h Q := xT_iinc (k := 4) (by decide +kernel) rfl rfl rfl
theorem r0_941 : xT d 0 941 (ls) (st) h Q ↔ xT d 0 23 (ls) (st) h Q := xT_goto (off := (-918)) (by decide +kernel) rfl
theorem r0_944 : xT d 0 944 (ls) (st) h Q ↔ xT d 0 945 (ls) (.int (xI 1) :: st) h Q := xT_iconst (n := 1) (by decide +kernel) rfl
theorem r0_945 (hx : x = 0 ∨ x = 1) : xT d 0 945 (ls) ([.int (xI x)]) h Q ↔ Q (h, .returned (some (.int (xI x)))) := xT_zreturn (by decide +kernel) rfl hx
end XR23
