/-! SMALL METHODS of class and model -/
section S32
variable {d : Nat} {Q : xm_H × Outcome → Prop} {f : Nat → Nat → Int} {a : Nat → Int → Int} {g : xG} {h : xm_H} {k v x y z w p q t : Int}
theorem s_isSide (x0 : -2147483648 ≤ x) (x1 : x ≤ 2147483647) : xTC d 19 [.int (xI x)] h Q ↔ (1 ≤ x ∧ x ≤ 6 → Q (h, .returned (some (.int (xI (1)))))) ∧ (¬ (1 ≤ x ∧ x ≤ 6) → Q (h, .returned (some (.int (xI (0)))))) := by
  rw [e19]
  simp (config := {contextual := true, maxSteps := 1000000}) (disch := omega) only [r19_0, r19_1, r19_2, r19_5, r19_6, r19_8, r19_11, r19_12, r19_15, r19_16, xAf_none, xAf_some, xu_app, Nat.reduceAdd, Nat.reduceSub, Nat.reduceEqDiff, Nat.reduceMul, reduceIte, and_self, and_true, true_and, and_false, false_and, true_implies, false_implies, implies_true, not_true_eq_false, not_false_eq_true, Int.reduceToNat, Int.reducePow, Int.reduceNeg, Int.reduceLT, Int.reduceLE, Int.reduceAdd, Int.reduceSub, Int.reduceMul, Int.reduceDiv, Int.reduceMod, Int.reduceEq, xA_1, xA_15, xA_255, xA_511, xA_65535, xA_32768]
  grind
theorem s_isPlanes (x0 : -2147483648 ≤ x) (x1 : x ≤ 2147483647) : xTC d 20 [.int (xI x)] h Q ↔ (x = 1 ∨ x = 3 → Q (h, .returned (some (.int (xI (1)))))) ∧ (¬ (x = 1 ∨ x = 3) → Q (h, .returned (some (.int (xI (0)))))) := by
  rw [e20]
  simp (config := {contextual := true, maxSteps := 1000000}) (disch := omega) only [r20_0, r20_1, r20_2, r20_5, r20_6, r20_7, r20_10, r20_11, r20_14, r20_15, xAf_none, xAf_some, xu_app, Nat.reduceAdd, Nat.reduceSub, Nat.reduceEqDiff, Nat.reduceMul, reduceIte, and_self, and_true, true_and, and_false, false_and, true_implies, false_implies, implies_true, not_true_eq_false, not_false_eq_true, Int.reduceToNat, Int.reducePow, Int.reduceNeg, Int.reduceLT, Int.reduceLE, Int.reduceAdd, Int.reduceSub, Int.reduceMul, Int.reduceDiv, Int.reduceMod, Int.reduceEq, xA_1, xA_15, xA_255, xA_511, xA_65535, xA_32768]
  grind
theorem s_isCoding (x0 : -2147483648 ≤ x) (x1 : x ≤ 2147483647) (y0 : -2147483648 ≤ y) (y1 : y ≤ 2147483647) (z0 : -2147483648 ≤ z) (z1 : z ≤ 2147483647) : xTC d 21 [.int (xI x), .int (xI y), .int (xI z)] h Q ↔ ((x = 0 ∨ x = 1) ∧ 1 ≤ y ∧ y ≤ 3 ∧ y ≤ z → Q (h, .returned (some (.int (xI (1)))))) ∧ (¬ ((x = 0 ∨ x = 1) ∧ 1 ≤ y ∧ y ≤ 3 ∧ y ≤ z) → Q (h, .returned (some (.int (xI (0)))))) := by
  rw [e21]
  simp (config := {contextual := true, maxSteps := 1000000}) (disch := omega) only [r21_0, r21_1, r21_4, r21_5, r21_6, r21_9, r21_10, r21_11, r21_14, r21_15, r21_16, r21_19, r21_20, r21_21, r21_24, r21_25, r21_28, r21_29, xAf_none, xAf_some, xu_app, Nat.reduceAdd, Nat.reduceSub, Nat.reduceEqDiff, Nat.reduceMul, reduceIte, and_self, and_true, true_and, and_false, false_and, true_implies, false_implies, implies_true, not_true_eq_false, not_false_eq_true, Int.reduceToNat, Int.reducePow, Int.reduceNeg, Int.reduceLT, Int.reduceLE, Int.reduceAdd, Int.reduceSub, Int.reduceMul, Int.reduceDiv, Int.reduceMod, Int.reduceEq, xA_1, xA_15, xA_255, xA_511, xA_65535, xA_32768]
  grind
theorem s_placeOf  : xTC d 22 [.int (xI x), .int (xI y), .int (xI z)] h Q ↔ Q (h, .returned (some (.int (xI ((x * 6 + z) * 6 + y))))) := by
  rw [e22]
  simp (config := {contextual := true, maxSteps := 1000000}) (disch := omega) only [r22_0, r22_1, r22_3, r22_4, r22_5, r22_6, r22_8, r22_9, r22_10, r22_11, xAf_none, xAf_some, xu_app, Nat.reduceAdd, Nat.reduceSub, Nat.reduceEqDiff, Nat.reduceMul, reduceIte, and_self, and_true, true_and, and_false, false_and, true_implies, false_implies, implies_true, not_true_eq_false, not_false_eq_true, Int.reduceToNat, Int.reducePow, Int.reduceNeg, Int.reduceLT, Int.reduceLE, Int.reduceAdd, Int.reduceSub, Int.reduceMul, Int.reduceDiv, Int.reduceMod, Int.reduceEq, xA_1, xA_15, xA_255, xA_511, xA_65535, xA_32768]
theorem s_rowOf (x0 : 0 ≤ x * z) (x1 : x * z ≤ 2147483647) (y0 : 0 < y) (y1 : y ≤ 2147483647) : xTC d 24 [.int (xI x), .int (xI y), .int (xI z)] h Q ↔ Q (h, .returned (some (.int (xI (x * z / y))))) := by
  rw [e24]
  simp (config := {contextual := true, maxSteps := 1000000}) (disch := omega) only [r24_0, r24_1, r24_2, r24_3, r24_4, r24_5, xAf_none, xAf_some, xu_app, Nat.reduceAdd, Nat.reduceSub, Nat.reduceEqDiff, Nat.reduceMul, reduceIte, and_self, and_true, true_and, and_false, false_and, true_implies, false_implies, implies_true, not_true_eq_false, not_false_eq_true, Int.reduceToNat, Int.reducePow, Int.reduceNeg, Int.reduceLT, Int.reduceLE, Int.reduceAdd, Int.reduceSub, Int.reduceMul, Int.reduceDiv, Int.reduceMod, Int.reduceEq, xA_1, xA_15, xA_255, xA_511, xA_65535, xA_32768]
theorem s_isSample (x0 : -2147483648 ≤ x) (x1 : x ≤ 2147483647) : xTC d 74 [.int (xI x)] h Q ↔ (0 ≤ x ∧ x ≤ 255 → Q (h, .returned (some (.int (xI (1)))))) ∧ (¬ (0 ≤ x ∧ x ≤ 255) → Q (h, .returned (some (.int (xI (0)))))) := by
  rw [e74]
  simp (config := {contextual := true, maxSteps := 1000000}) (disch := omega) only [r74_0, r74_1, r74_4, r74_5, r74_8, r74_11, r74_12, r74_15, r74_16, xAf_none, xAf_some, xu_app, Nat.reduceAdd, Nat.reduceSub, Nat.reduceEqDiff, Nat.reduceMul, reduceIte, and_self, and_true, true_and, and_false, false_and, true_implies, false_implies, implies_true, not_true_eq_false, not_false_eq_true, Int.reduceToNat, Int.reducePow, Int.reduceNeg, Int.reduceLT, Int.reduceLE, Int.reduceAdd, Int.reduceSub, Int.reduceMul, Int.reduceDiv, Int.reduceMod, Int.reduceEq, xA_1, xA_15, xA_255, xA_511, xA_65535, xA_32768]
  grind
theorem s_between (x0 : -2147483648 ≤ x) (x1 : x ≤ 2147483647) (y0 : -2147483648 ≤ y) (y1 : y ≤ 2147483647) (z0 : -2147483648 ≤ z) (z1 : z ≤ 2147483647) : xTC d 129 [.int (xI x), .int (xI y), .int (xI z)] h Q ↔ (y ≤ x ∧ x ≤ z → Q (h, .returned (some (.int (xI (1)))))) ∧ (¬ (y ≤ x ∧ x ≤ z) → Q (h, .returned (some (.int (xI (0)))))) := by
  rw [e129]
  simp (config := {contextual := true, maxSteps := 1000000}) (disch := omega) only [r129_0, r129_1, r129_2, r129_5, r129_6, r129_7, r129_10, r129_11, r129_14, r129_15, xAf_none, xAf_some, xu_app, Nat.reduceAdd, Nat.reduceSub, Nat.reduceEqDiff, Nat.reduceMul, reduceIte, and_self, and_true, true_and, and_false, false_and, true_implies, false_implies, implies_true, not_true_eq_false, not_false_eq_true, Int.reduceToNat, Int.reducePow, Int.reduceNeg, Int.reduceLT, Int.reduceLE, Int.reduceAdd, Int.reduceSub, Int.reduceMul, Int.reduceDiv, Int.reduceMod, Int.reduceEq, xA_1, xA_15, xA_255, xA_511, xA_65535, xA_32768]
  grind
theorem s_modulus (x0 : -2147483648 ≤ x) (x1 : x ≤ 2147483647) : xTC d 100 [.int (xI x)] h Q ↔ Q (h, .returned (some (.int (xI (if x = 0 then 256 else 512))))) := by
  rw [e100]
  simp (config := {contextual := true, maxSteps := 1000000}) (disch := omega) only [r100_0, r100_1, r100_4, r100_7, r100_10, r100_13, xAf_none, xAf_some, xu_app, Nat.reduceAdd, Nat.reduceSub, Nat.reduceEqDiff, Nat.reduceMul, reduceIte, and_self, and_true, true_and, and_false, false_and, true_implies, false_implies, implies_true, not_true_eq_false, not_false_eq_true, Int.reduceToNat, Int.reducePow, Int.reduceNeg, Int.reduceLT, Int.reduceLE, Int.reduceAdd, Int.reduceSub, Int.reduceMul, Int.reduceDiv, Int.reduceMod, Int.reduceEq, xA_1, xA_15, xA_255, xA_511, xA_65535, xA_32768]
  by_cases hx : x = 0 <;> simp [hx]
theorem s_wholeOf (x0 : -2147483648 ≤ x) (x1 : x ≤ 2147483647) : xTC d 135 [.int (xI x)] h Q ↔ Q (h, .returned (some (.int (xI (if x < 127 then 2 + x else 3 + x))))) := by
  rw [e135]
  simp (config := {contextual := true, maxSteps := 1000000}) (disch := omega) only [r135_0, r135_1, r135_3, r135_6, r135_7, r135_8, r135_9, r135_12, r135_13, r135_14, r135_15, xAf_none, xAf_some, xu_app, Nat.reduceAdd, Nat.reduceSub, Nat.reduceEqDiff, Nat.reduceMul, reduceIte, and_self, and_true, true_and, and_false, false_and, true_implies, false_implies, implies_true, not_true_eq_false, not_false_eq_true, Int.reduceToNat, Int.reducePow, Int.reduceNeg, Int.reduceLT, Int.reduceLE, Int.reduceAdd, Int.reduceSub, Int.reduceMul, Int.reduceDiv, Int.reduceMod, Int.reduceEq, xA_1, xA_15, xA_255, xA_511, xA_65535, xA_32768]
  by_cases hx : x < 127 <;> simp [hx]
theorem l_stir (n : Nat) : ∀ (r i : Int), i = 8 - n → 0 ≤ i → 0 ≤ r → r < 65536 → Q (h, .returned (some (.int (xI (cIt n r))))) → xT d 128 9 [.int (xI x), .int (xI y), .int (xI r), .int (xI i)] [] h Q := by
  induction n with
  | zero =>
    intro r i hi i0 r0 r1 hk
    have hi8 : i = 8 := by omega
    subst hi8
    rw [r128_9]
    simp (config := {contextual := true, maxSteps := 1000000}) (disch := omega) only [r128_0, r128_1, r128_2, r128_4, r128_5, r128_6, r128_7, r128_8, r128_10, r128_12, r128_15, r128_16, r128_18, r128_19, r128_22, r128_23, r128_24, r128_25, r128_28, r128_29, r128_31, r128_32, r128_35, r128_36, r128_37, r128_38, r128_39, r128_42, r128_45, r128_46, xAf_none, xAf_some, xu_app, Nat.reduceAdd, Nat.reduceSub, Nat.reduceEqDiff, Nat.reduceMul, reduceIte, and_self, and_true, true_and, and_false, false_and, true_implies, false_implies, implies_true, not_true_eq_false, not_false_eq_true, Int.reduceToNat, Int.reducePow, Int.reduceNeg, Int.reduceLT, Int.reduceLE, Int.reduceAdd, Int.reduceSub, Int.reduceMul, Int.reduceDiv, Int.reduceMod, Int.reduceEq, xA_1, xA_15, xA_255, xA_511, xA_65535, xA_32768]
    exact hk
  | succ n ih =>
    intro r i hi i0 r0 r1 hk
    rw [r128_9]
    have hc : i < 8 := by omega
    simp (config := {contextual := true, maxSteps := 1000000}) (disch := omega) only [r128_0, r128_1, r128_2, r128_4, r128_5, r128_6, r128_7, r128_8, r128_10, r128_12, r128_15, r128_16, r128_18, r128_19, r128_22, r128_23, r128_24, r128_25, r128_28, r128_29, r128_31, r128_32, r128_35, r128_36, r128_37, r128_38, r128_39, r128_42, r128_45, r128_46, hc, xAf_none, xAf_some, xu_app, Nat.reduceAdd, Nat.reduceSub, Nat.reduceEqDiff, Nat.reduceMul, reduceIte, and_self, and_true, true_and, and_false, false_and, true_implies, false_implies, implies_true, not_true_eq_false, not_false_eq_true, Int.reduceToNat, Int.reducePow, Int.reduceNeg, Int.reduceLT, Int.reduceLE, Int.reduceAdd, Int.reduceSub, Int.reduceMul, Int.reduceDiv, Int.reduceMod, Int.reduceEq, xA_1, xA_15, xA_255, xA_511, xA_65535, xA_32768]
    have hs := cStep_lt r0 r1
    have h1 := ih (cStep r) (i + 1) (by omega) (by omega) hs.1 hs.2 hk
    refine ⟨fun hr => ?_, fun hr => ?_⟩
    · rw [show cStep r = r * 2 from if_pos (by omega)] at h1; exact h1
    · rw [show cStep r = xX (r * 2) 4129 % 65536 from if_neg (by omega)] at h1; exact h1
theorem s_stir (x0 : 0 ≤ x) (x1 : x < 65536) (y0 : 0 ≤ y) (y1 : y ≤ 255) : xTC d 128 [.int (xI x), .int (xI y)] h Q ↔ Q (h, .returned (some (.int (xI (crcB x y))))) := by
  refine xTC_iff ?_
  rw [e128]
  have hx := xX_lt (b := y * 256) x0 x1 (by omega) (by omega)
  simp (config := {contextual := true, maxSteps := 1000000}) (disch := omega) only [r128_0, r128_1, r128_2, r128_4, r128_5, r128_6, r128_7, r128_8, r128_10, r128_12, r128_15, r128_16, r128_18, r128_19, r128_22, r128_23, r128_24, r128_25, r128_28, r128_29, r128_31, r128_32, r128_35, r128_36, r128_37, r128_38, r128_39, r128_42, r128_45, r128_46, xAf_none, xAf_some, xu_app, Nat.reduceAdd, Nat.reduceSub, Nat.reduceEqDiff, Nat.reduceMul, reduceIte, and_self, and_true, true_and, and_false, false_and, true_implies, false_implies, implies_true, not_true_eq_false, not_false_eq_true, Int.reduceToNat, Int.reducePow, Int.reduceNeg, Int.reduceLT, Int.reduceLE, Int.reduceAdd, Int.reduceSub, Int.reduceMul, Int.reduceDiv, Int.reduceMod, Int.reduceEq, xA_1, xA_15, xA_255, xA_511, xA_65535, xA_32768]
  exact l_stir 8 _ _ (by omega) (by omega) hx.1 hx.2 rfl
theorem l_mchk (hby : ∀ j, 0 ≤ a 24 j ∧ a 24 j ≤ 255) (x0 : 0 ≤ x) (hd : 1 ≤ d) (n : Nat) : ∀ (r i : Int), i = x + y - n → x ≤ i → x + y ≤ 1200 → 0 ≤ r → r < 65536 → Q (hh f a g, .returned (some (.int (xI (crc (a 24) i r n))))) → xT d 130 6 [.ref 21, .int (xI x), .int (xI y), .int (xI r), .int (xI i)] [] (hh f a g) Q := by
  induction n with
  | zero =>
    intro r i hi h1 h2 r0 r1 hk
    rw [r130_6]
    have hc : ¬ i < x + y := by omega
    simp (config := {contextual := true, maxSteps := 1000000}) (disch := omega) only [r130_0, r130_2, r130_3, r130_4, r130_8, r130_9, r130_10, r130_11, r130_14, r130_15, r130_16, r130_19, r130_21, r130_22, r130_25, r130_26, r130_29, r130_32, r130_33, hc, xAf_none, xAf_some, xu_app, Nat.reduceAdd, Nat.reduceSub, Nat.reduceEqDiff, Nat.reduceMul, reduceIte, and_self, and_true, true_and, and_false, false_and, true_implies, false_implies, implies_true, not_true_eq_false, not_false_eq_true, Int.reduceToNat, Int.reducePow, Int.reduceNeg, Int.reduceLT, Int.reduceLE, Int.reduceAdd, Int.reduceSub, Int.reduceMul, Int.reduceDiv, Int.reduceMod, Int.reduceEq, xA_1, xA_15, xA_255, xA_511, xA_65535, xA_32768]
    exact hk
  | succ n ih =>
    intro r i hi h1 h2 r0 r1 hk
    rw [r130_6]
    have hc : i < x + y := by omega
    have hb := hby i
    have hcc := crcB_lt r0 r1 hb.1 hb.2
    simp (config := {contextual := true, maxSteps := 1000000}) (disch := omega) only [r130_0, r130_2, r130_3, r130_4, r130_8, r130_9, r130_10, r130_11, r130_14, r130_15, r130_16, r130_19, r130_21, r130_22, r130_25, r130_26, r130_29, r130_32, r130_33, hc, s_stir, xAf_none, xAf_some, xu_app, Nat.reduceAdd, Nat.reduceSub, Nat.reduceEqDiff, Nat.reduceMul, reduceIte, and_self, and_true, true_and, and_false, false_and, true_implies, false_implies, implies_true, not_true_eq_false, not_false_eq_true, Int.reduceToNat, Int.reducePow, Int.reduceNeg, Int.reduceLT, Int.reduceLE, Int.reduceAdd, Int.reduceSub, Int.reduceMul, Int.reduceDiv, Int.reduceMod, Int.reduceEq, xA_1, xA_15, xA_255, xA_511, xA_65535, xA_32768]
    exact ih _ (i + 1) (by omega) (by omega) (by omega) hcc.1 hcc.2 hk
theorem s_mchk (hby : ∀ j, 0 ≤ a 24 j ∧ a 24 j ≤ 255) (x0 : 0 ≤ x) (y0 : 0 ≤ y) (y1 : x + y ≤ 1200) (hd : 1 ≤ d) : xTC d 130 [.ref 21, .int (xI x), .int (xI y)] (hh f a g) Q ↔ Q (hh f a g, .returned (some (.int (xI (crc (a 24) x 65535 y.toNat))))) := by
  refine xTC_iff ?_
  rw [e130]
  simp (config := {contextual := true, maxSteps := 1000000}) (disch := omega) only [r130_0, r130_2, r130_3, r130_4, r130_8, r130_9, r130_10, r130_11, r130_14, r130_15, r130_16, r130_19, r130_21, r130_22, r130_25, r130_26, r130_29, r130_32, r130_33, xAf_none, xAf_some, xu_app, Nat.reduceAdd, Nat.reduceSub, Nat.reduceEqDiff, Nat.reduceMul, reduceIte, and_self, and_true, true_and, and_false, false_and, true_implies, false_implies, implies_true, not_true_eq_false, not_false_eq_true, Int.reduceToNat, Int.reducePow, Int.reduceNeg, Int.reduceLT, Int.reduceLE, Int.reduceAdd, Int.reduceSub, Int.reduceMul, Int.reduceDiv, Int.reduceMod, Int.reduceEq, xA_1, xA_15, xA_255, xA_511, xA_65535, xA_32768]
  exact l_mchk hby x0 hd y.toNat _ _ (by omega) (by omega) y1 (by omega) (by omega) rfl
theorem s_thrown : xTC d 118 [.ref 21] (hh f a g) Q ↔ Q (hh f a g, .returned (some (.int (xI (f 21 0))))) := by
  rw [e118]
  simp (config := {contextual := true, maxSteps := 1000000}) (disch := omega) only [r118_0, r118_1, r118_4, xAf_none, xAf_some, xu_app, Nat.reduceAdd, Nat.reduceSub, Nat.reduceEqDiff, Nat.reduceMul, reduceIte, and_self, and_true, true_and, and_false, false_and, true_implies, false_implies, implies_true, not_true_eq_false, not_false_eq_true, Int.reduceToNat, Int.reducePow, Int.reduceNeg, Int.reduceLT, Int.reduceLE, Int.reduceAdd, Int.reduceSub, Int.reduceMul, Int.reduceDiv, Int.reduceMod, Int.reduceEq, xA_1, xA_15, xA_255, xA_511, xA_65535, xA_32768]
theorem s_mput (l0 : 0 ≤ f 21 7) (l1 : f 21 7 < 1200) : xTC d 137 [.ref 21, .int (xI v)] (hh f a g) Q ↔ Q (hh (xu f 21 7 (f 21 7 + 1)) (xw a 24 (f 21 7) v) g, .returned none) := by
  rw [e137]
  simp (config := {contextual := true, maxSteps := 1000000}) (disch := omega) only [r137_0, r137_1, r137_4, r137_5, r137_8, r137_9, r137_10, r137_11, r137_12, r137_15, r137_16, r137_17, r137_20, xAf_none, xAf_some, xu_app, Nat.reduceAdd, Nat.reduceSub, Nat.reduceEqDiff, Nat.reduceMul, reduceIte, and_self, and_true, true_and, and_false, false_and, true_implies, false_implies, implies_true, not_true_eq_false, not_false_eq_true, Int.reduceToNat, Int.reducePow, Int.reduceNeg, Int.reduceLT, Int.reduceLE, Int.reduceAdd, Int.reduceSub, Int.reduceMul, Int.reduceDiv, Int.reduceMod, Int.reduceEq, xA_1, xA_15, xA_255, xA_511, xA_65535, xA_32768]

theorem s_reshape2 : xTC d 34 [.ref 2, .int (xI x), .int (xI y), .int (xI z)] (hh f a g) Q ↔ Q (hh (xu (xu (xu (xu f 2 0 x) 2 1 y) 2 2 z) 2 3 0) a g, .returned none) := by
  rw [e34]
  simp (config := {contextual := true, maxSteps := 1000000}) (disch := omega) only [r34_0, r34_1, r34_2, r34_2_1, r34_5, r34_6, r34_7, r34_7_1, r34_10, r34_11, r34_12, r34_12_1, r34_15, r34_16, r34_17, r34_17_1, r34_20, xAf_none, xAf_some, xu_app, Nat.reduceAdd, Nat.reduceSub, Nat.reduceEqDiff, Nat.reduceMul, reduceIte, and_self, and_true, true_and, and_false, false_and, true_implies, false_implies, implies_true, not_true_eq_false, not_false_eq_true, Int.reduceToNat, Int.reducePow, Int.reduceNeg, Int.reduceLT, Int.reduceLE, Int.reduceAdd, Int.reduceSub, Int.reduceMul, Int.reduceDiv, Int.reduceMod, Int.reduceEq, xA_1, xA_15, xA_255, xA_511, xA_65535, xA_32768]
theorem s_lastTime2 (l0 : 0 ≤ f 2 3) (l1 : f 2 3 ≤ 3) : xTC d 35 [.ref 2] (hh f a g) Q ↔ (f 2 3 = 0 → Q (hh f a g, .returned (some (.int (xI (-1)))))) ∧ (¬ f 2 3 = 0 → Q (hh f a g, .returned (some (.int (xI (a 3 (f 2 3 - 1))))))) := by
  rw [e35]
  simp (config := {contextual := true, maxSteps := 1000000}) (disch := omega) only [r35_0, r35_1, r35_1_1, r35_4, r35_7, r35_8, r35_11, r35_12, r35_12_1, r35_15, r35_16, r35_16_1, r35_19, r35_20, r35_21, r35_21_1, r35_22, xAf_none, xAf_some, xu_app, Nat.reduceAdd, Nat.reduceSub, Nat.reduceEqDiff, Nat.reduceMul, reduceIte, and_self, and_true, true_and, and_false, false_and, true_implies, false_implies, implies_true, not_true_eq_false, not_false_eq_true, Int.reduceToNat, Int.reducePow, Int.reduceNeg, Int.reduceLT, Int.reduceLE, Int.reduceAdd, Int.reduceSub, Int.reduceMul, Int.reduceDiv, Int.reduceMod, Int.reduceEq, xA_1, xA_15, xA_255, xA_511, xA_65535, xA_32768]
theorem l_addFrame2 (l0 : 0 ≤ f 2 3) (l1 : f 2 3 < 3) (n : Nat) : ∀ (a : Nat → Int → Int) (i : Int), i = 108 - n → 0 ≤ i → Q (hh (xu f 2 3 (f 2 3 + 1)) (xw (fun c j => if c = 4 ∧ f 2 3 * 108 + i ≤ j ∧ j < f 2 3 * 108 + 108 then 0 else a c j) 3 (f 2 3) x) g, .returned none) → xT d 36 11 [.ref 2, .int (xI x), .int (xI i)] [] (hh f a g) Q := by
  induction n with
  | zero =>
    intro a i hi i0 hk
    have h8 : i = 108 := by omega
    subst h8
    rw [r36_11]
    have e : (fun (c : Nat) (j : Int) => if c = 4 ∧ f 2 3 * 108 + 108 ≤ j ∧ j < f 2 3 * 108 + 108 then 0 else a c j) = a := by
      funext c j; rw [if_neg (by omega)]
    rw [e] at hk
    simp (config := {contextual := true, maxSteps := 1000000}) (disch := omega) only [r36_0, r36_1, r36_1_1, r36_4, r36_5, r36_8, r36_9, r36_10, r36_12, r36_14, r36_17, r36_18, r36_18_1, r36_21, r36_22, r36_22_1, r36_25, r36_27, r36_28, r36_29, r36_30, r36_31, r36_31_1, r36_32, r36_35, r36_38, r36_39, r36_39_1, r36_42, r36_43, r36_43_1, r36_46, r36_47, r36_47_1, r36_48, r36_49, r36_50, r36_50_1, r36_53, r36_54, r36_55, r36_55_1, r36_58, xAf_none, xAf_some, xu_app, Nat.reduceAdd, Nat.reduceSub, Nat.reduceEqDiff, Nat.reduceMul, reduceIte, and_self, and_true, true_and, and_false, false_and, true_implies, false_implies, implies_true, not_true_eq_false, not_false_eq_true, Int.reduceToNat, Int.reducePow, Int.reduceNeg, Int.reduceLT, Int.reduceLE, Int.reduceAdd, Int.reduceSub, Int.reduceMul, Int.reduceDiv, Int.reduceMod, Int.reduceEq, xA_1, xA_15, xA_255, xA_511, xA_65535, xA_32768]
    exact hk
  | succ n ih =>
    intro a i hi i0 hk
    rw [r36_11]
    have hc : i < 108 := by omega
    simp (config := {contextual := true, maxSteps := 1000000}) (disch := omega) only [r36_0, r36_1, r36_1_1, r36_4, r36_5, r36_8, r36_9, r36_10, r36_12, r36_14, r36_17, r36_18, r36_18_1, r36_21, r36_22, r36_22_1, r36_25, r36_27, r36_28, r36_29, r36_30, r36_31, r36_31_1, r36_32, r36_35, r36_38, r36_39, r36_39_1, r36_42, r36_43, r36_43_1, r36_46, r36_47, r36_47_1, r36_48, r36_49, r36_50, r36_50_1, r36_53, r36_54, r36_55, r36_55_1, r36_58, hc, xAf_none, xAf_some, xu_app, Nat.reduceAdd, Nat.reduceSub, Nat.reduceEqDiff, Nat.reduceMul, reduceIte, and_self, and_true, true_and, and_false, false_and, true_implies, false_implies, implies_true, not_true_eq_false, not_false_eq_true, Int.reduceToNat, Int.reducePow, Int.reduceNeg, Int.reduceLT, Int.reduceLE, Int.reduceAdd, Int.reduceSub, Int.reduceMul, Int.reduceDiv, Int.reduceMod, Int.reduceEq, xA_1, xA_15, xA_255, xA_511, xA_65535, xA_32768]
    refine ih _ (i + 1) (by omega) (by omega) ?_
    have e : (fun (c : Nat) (j : Int) => if c = 4 ∧ f 2 3 * 108 + (i + 1) ≤ j ∧ j < f 2 3 * 108 + 108 then 0 else xw a 4 (f 2 3 * 108 + i) 0 c j) = (fun (c : Nat) (j : Int) => if c = 4 ∧ f 2 3 * 108 + i ≤ j ∧ j < f 2 3 * 108 + 108 then 0 else a c j) := by
      funext c j
      rw [xw_app]
      by_cases h1 : c = 4 ∧ f 2 3 * 108 + i ≤ j ∧ j < f 2 3 * 108 + 108
      · rw [if_pos h1]
        by_cases h2 : c = 4 ∧ f 2 3 * 108 + (i + 1) ≤ j ∧ j < f 2 3 * 108 + 108
        · rw [if_pos h2]
        · rw [if_neg h2, if_pos (by omega)]
      · rw [if_neg h1, if_neg (by omega), if_neg (by omega)]
    rw [e]; exact hk
theorem s_addFrame2 (l0 : 0 ≤ f 2 3) (l1 : f 2 3 < 3) : xTC d 36 [.ref 2, .int (xI x)] (hh f a g) Q ↔ Q (hh (xu f 2 3 (f 2 3 + 1)) (xw (fun c j => if c = 4 ∧ f 2 3 * 108 ≤ j ∧ j < f 2 3 * 108 + 108 then 0 else a c j) 3 (f 2 3) x) g, .returned none) := by
  refine xTC_iff ?_
  rw [e36]
  have hc : f 2 3 < 3 := l1
  simp (config := {contextual := true, maxSteps := 1000000}) (disch := omega) only [r36_0, r36_1, r36_1_1, r36_4, r36_5, r36_8, r36_9, r36_10, r36_12, r36_14, r36_17, r36_18, r36_18_1, r36_21, r36_22, r36_22_1, r36_25, r36_27, r36_28, r36_29, r36_30, r36_31, r36_31_1, r36_32, r36_35, r36_38, r36_39, r36_39_1, r36_42, r36_43, r36_43_1, r36_46, r36_47, r36_47_1, r36_48, r36_49, r36_50, r36_50_1, r36_53, r36_54, r36_55, r36_55_1, r36_58, hc, xAf_none, xAf_some, xu_app, Nat.reduceAdd, Nat.reduceSub, Nat.reduceEqDiff, Nat.reduceMul, reduceIte, and_self, and_true, true_and, and_false, false_and, true_implies, false_implies, implies_true, not_true_eq_false, not_false_eq_true, Int.reduceToNat, Int.reducePow, Int.reduceNeg, Int.reduceLT, Int.reduceLE, Int.reduceAdd, Int.reduceSub, Int.reduceMul, Int.reduceDiv, Int.reduceMod, Int.reduceEq, xA_1, xA_15, xA_255, xA_511, xA_65535, xA_32768]
  refine l_addFrame2 l0 l1 108 a 0 (by omega) (by omega) ?_
  rw [Int.add_zero]
theorem s_hasPlace2 (x0 : -2147483648 ≤ x) (x1 : x ≤ 2147483647) (y0 : -2147483648 ≤ y) (y1 : y ≤ 2147483647) (z0 : -2147483648 ≤ z) (z1 : z ≤ 2147483647) (w0 : -2147483648 ≤ w) (w1 : w ≤ 2147483647) (f0 : 0 ≤ f 2 0 ∧ f 2 0 ≤ 6) (f1 : 0 ≤ f 2 1 ∧ f 2 1 ≤ 6) (f2 : 0 ≤ f 2 2 ∧ f 2 2 ≤ 3) (f3 : 0 ≤ f 2 3 ∧ f 2 3 ≤ 3) : xTC d 37 [.ref 2, .int (xI x), .int (xI y), .int (xI z), .int (xI w)] (hh f a g) Q ↔ (0 ≤ x ∧ x < f 2 3 ∧ 0 ≤ y ∧ y < f 2 2 ∧ 0 ≤ z ∧ z < f 2 0 ∧ 0 ≤ w ∧ w < f 2 1 → Q (hh f a g, .returned (some (.int (xI (1)))))) ∧ (¬ (0 ≤ x ∧ x < f 2 3 ∧ 0 ≤ y ∧ y < f 2 2 ∧ 0 ≤ z ∧ z < f 2 0 ∧ 0 ≤ w ∧ w < f 2 1) → Q (hh f a g, .returned (some (.int (xI (0)))))) := by
  rw [e37]
  simp (config := {contextual := true, maxSteps := 1000000}) (disch := omega) only [r37_0, r37_1, r37_4, r37_5, r37_6, r37_6_1, r37_9, r37_12, r37_13, r37_16, r37_17, r37_18, r37_18_1, r37_21, r37_24, r37_25, r37_28, r37_29, r37_30, r37_30_1, r37_33, r37_36, r37_38, r37_41, r37_43, r37_44, r37_44_1, r37_47, r37_50, r37_51, r37_54, r37_55, xAf_none, xAf_some, xu_app, Nat.reduceAdd, Nat.reduceSub, Nat.reduceEqDiff, Nat.reduceMul, reduceIte, and_self, and_true, true_and, and_false, false_and, true_implies, false_implies, implies_true, not_true_eq_false, not_false_eq_true, Int.reduceToNat, Int.reducePow, Int.reduceNeg, Int.reduceLT, Int.reduceLE, Int.reduceAdd, Int.reduceSub, Int.reduceMul, Int.reduceDiv, Int.reduceMod, Int.reduceEq, xA_1, xA_15, xA_255, xA_511, xA_65535, xA_32768]
  grind
theorem s_reshape5 : xTC d 34 [.ref 5, .int (xI x), .int (xI y), .int (xI z)] (hh f a g) Q ↔ Q (hh (xu (xu (xu (xu f 5 0 x) 5 1 y) 5 2 z) 5 3 0) a g, .returned none) := by
  rw [e34]
  simp (config := {contextual := true, maxSteps := 1000000}) (disch := omega) only [r34_0, r34_1, r34_2, r34_2_1, r34_5, r34_6, r34_7, r34_7_1, r34_10, r34_11, r34_12, r34_12_1, r34_15, r34_16, r34_17, r34_17_1, r34_20, xAf_none, xAf_some, xu_app, Nat.reduceAdd, Nat.reduceSub, Nat.reduceEqDiff, Nat.reduceMul, reduceIte, and_self, and_true, true_and, and_false, false_and, true_implies, false_implies, implies_true, not_true_eq_false, not_false_eq_true, Int.reduceToNat, Int.reducePow, Int.reduceNeg, Int.reduceLT, Int.reduceLE, Int.reduceAdd, Int.reduceSub, Int.reduceMul, Int.reduceDiv, Int.reduceMod, Int.reduceEq, xA_1, xA_15, xA_255, xA_511, xA_65535, xA_32768]
theorem s_lastTime5 (l0 : 0 ≤ f 5 3) (l1 : f 5 3 ≤ 3) : xTC d 35 [.ref 5] (hh f a g) Q ↔ (f 5 3 = 0 → Q (hh f a g, .returned (some (.int (xI (-1)))))) ∧ (¬ f 5 3 = 0 → Q (hh f a g, .returned (some (.int (xI (a 6 (f 5 3 - 1))))))) := by
  rw [e35]
  simp (config := {contextual := true, maxSteps := 1000000}) (disch := omega) only [r35_0, r35_1, r35_1_1, r35_4, r35_7, r35_8, r35_11, r35_12, r35_12_1, r35_15, r35_16, r35_16_1, r35_19, r35_20, r35_21, r35_21_1, r35_22, xAf_none, xAf_some, xu_app, Nat.reduceAdd, Nat.reduceSub, Nat.reduceEqDiff, Nat.reduceMul, reduceIte, and_self, and_true, true_and, and_false, false_and, true_implies, false_implies, implies_true, not_true_eq_false, not_false_eq_true, Int.reduceToNat, Int.reducePow, Int.reduceNeg, Int.reduceLT, Int.reduceLE, Int.reduceAdd, Int.reduceSub, Int.reduceMul, Int.reduceDiv, Int.reduceMod, Int.reduceEq, xA_1, xA_15, xA_255, xA_511, xA_65535, xA_32768]
theorem l_addFrame5 (l0 : 0 ≤ f 5 3) (l1 : f 5 3 < 3) (n : Nat) : ∀ (a : Nat → Int → Int) (i : Int), i = 108 - n → 0 ≤ i → Q (hh (xu f 5 3 (f 5 3 + 1)) (xw (fun c j => if c = 7 ∧ f 5 3 * 108 + i ≤ j ∧ j < f 5 3 * 108 + 108 then 0 else a c j) 6 (f 5 3) x) g, .returned none) → xT d 36 11 [.ref 5, .int (xI x), .int (xI i)] [] (hh f a g) Q := by
  induction n with
  | zero =>
    intro a i hi i0 hk
    have h8 : i = 108 := by omega
    subst h8
    rw [r36_11]
    have e : (fun (c : Nat) (j : Int) => if c = 7 ∧ f 5 3 * 108 + 108 ≤ j ∧ j < f 5 3 * 108 + 108 then 0 else a c j) = a := by
      funext c j; rw [if_neg (by omega)]
    rw [e] at hk
    simp (config := {contextual := true, maxSteps := 1000000}) (disch := omega) only [r36_0, r36_1, r36_1_1, r36_4, r36_5, r36_8, r36_9, r36_10, r36_12, r36_14, r36_17, r36_18, r36_18_1, r36_21, r36_22, r36_22_1, r36_25, r36_27, r36_28, r36_29, r36_30, r36_31, r36_31_1, r36_32, r36_35, r36_38, r36_39, r36_39_1, r36_42, r36_43, r36_43_1, r36_46, r36_47, r36_47_1, r36_48, r36_49, r36_50, r36_50_1, r36_53, r36_54, r36_55, r36_55_1, r36_58, xAf_none, xAf_some, xu_app, Nat.reduceAdd, Nat.reduceSub, Nat.reduceEqDiff, Nat.reduceMul, reduceIte, and_self, and_true, true_and, and_false, false_and, true_implies, false_implies, implies_true, not_true_eq_false, not_false_eq_true, Int.reduceToNat, Int.reducePow, Int.reduceNeg, Int.reduceLT, Int.reduceLE, Int.reduceAdd, Int.reduceSub, Int.reduceMul, Int.reduceDiv, Int.reduceMod, Int.reduceEq, xA_1, xA_15, xA_255, xA_511, xA_65535, xA_32768]
    exact hk
  | succ n ih =>
    intro a i hi i0 hk
    rw [r36_11]
    have hc : i < 108 := by omega
    simp (config := {contextual := true, maxSteps := 1000000}) (disch := omega) only [r36_0, r36_1, r36_1_1, r36_4, r36_5, r36_8, r36_9, r36_10, r36_12, r36_14, r36_17, r36_18, r36_18_1, r36_21, r36_22, r36_22_1, r36_25, r36_27, r36_28, r36_29, r36_30, r36_31, r36_31_1, r36_32, r36_35, r36_38, r36_39, r36_39_1, r36_42, r36_43, r36_43_1, r36_46, r36_47, r36_47_1, r36_48, r36_49, r36_50, r36_50_1, r36_53, r36_54, r36_55, r36_55_1, r36_58, hc, xAf_none, xAf_some, xu_app, Nat.reduceAdd, Nat.reduceSub, Nat.reduceEqDiff, Nat.reduceMul, reduceIte, and_self, and_true, true_and, and_false, false_and, true_implies, false_implies, implies_true, not_true_eq_false, not_false_eq_true, Int.reduceToNat, Int.reducePow, Int.reduceNeg, Int.reduceLT, Int.reduceLE, Int.reduceAdd, Int.reduceSub, Int.reduceMul, Int.reduceDiv, Int.reduceMod, Int.reduceEq, xA_1, xA_15, xA_255, xA_511, xA_65535, xA_32768]
    refine ih _ (i + 1) (by omega) (by omega) ?_
    have e : (fun (c : Nat) (j : Int) => if c = 7 ∧ f 5 3 * 108 + (i + 1) ≤ j ∧ j < f 5 3 * 108 + 108 then 0 else xw a 7 (f 5 3 * 108 + i) 0 c j) = (fun (c : Nat) (j : Int) => if c = 7 ∧ f 5 3 * 108 + i ≤ j ∧ j < f 5 3 * 108 + 108 then 0 else a c j) := by
      funext c j
      rw [xw_app]
      by_cases h1 : c = 7 ∧ f 5 3 * 108 + i ≤ j ∧ j < f 5 3 * 108 + 108
      · rw [if_pos h1]
        by_cases h2 : c = 7 ∧ f 5 3 * 108 + (i + 1) ≤ j ∧ j < f 5 3 * 108 + 108
        · rw [if_pos h2]
        · rw [if_neg h2, if_pos (by omega)]
      · rw [if_neg h1, if_neg (by omega), if_neg (by omega)]
    rw [e]; exact hk
theorem s_addFrame5 (l0 : 0 ≤ f 5 3) (l1 : f 5 3 < 3) : xTC d 36 [.ref 5, .int (xI x)] (hh f a g) Q ↔ Q (hh (xu f 5 3 (f 5 3 + 1)) (xw (fun c j => if c = 7 ∧ f 5 3 * 108 ≤ j ∧ j < f 5 3 * 108 + 108 then 0 else a c j) 6 (f 5 3) x) g, .returned none) := by
  refine xTC_iff ?_
  rw [e36]
  have hc : f 5 3 < 3 := l1
  simp (config := {contextual := true, maxSteps := 1000000}) (disch := omega) only [r36_0, r36_1, r36_1_1, r36_4, r36_5, r36_8, r36_9, r36_10, r36_12, r36_14, r36_17, r36_18, r36_18_1, r36_21, r36_22, r36_22_1, r36_25, r36_27, r36_28, r36_29, r36_30, r36_31, r36_31_1, r36_32, r36_35, r36_38, r36_39, r36_39_1, r36_42, r36_43, r36_43_1, r36_46, r36_47, r36_47_1, r36_48, r36_49, r36_50, r36_50_1, r36_53, r36_54, r36_55, r36_55_1, r36_58, hc, xAf_none, xAf_some, xu_app, Nat.reduceAdd, Nat.reduceSub, Nat.reduceEqDiff, Nat.reduceMul, reduceIte, and_self, and_true, true_and, and_false, false_and, true_implies, false_implies, implies_true, not_true_eq_false, not_false_eq_true, Int.reduceToNat, Int.reducePow, Int.reduceNeg, Int.reduceLT, Int.reduceLE, Int.reduceAdd, Int.reduceSub, Int.reduceMul, Int.reduceDiv, Int.reduceMod, Int.reduceEq, xA_1, xA_15, xA_255, xA_511, xA_65535, xA_32768]
  refine l_addFrame5 l0 l1 108 a 0 (by omega) (by omega) ?_
  rw [Int.add_zero]
theorem s_hasPlace5 (x0 : -2147483648 ≤ x) (x1 : x ≤ 2147483647) (y0 : -2147483648 ≤ y) (y1 : y ≤ 2147483647) (z0 : -2147483648 ≤ z) (z1 : z ≤ 2147483647) (w0 : -2147483648 ≤ w) (w1 : w ≤ 2147483647) (f0 : 0 ≤ f 5 0 ∧ f 5 0 ≤ 6) (f1 : 0 ≤ f 5 1 ∧ f 5 1 ≤ 6) (f2 : 0 ≤ f 5 2 ∧ f 5 2 ≤ 3) (f3 : 0 ≤ f 5 3 ∧ f 5 3 ≤ 3) : xTC d 37 [.ref 5, .int (xI x), .int (xI y), .int (xI z), .int (xI w)] (hh f a g) Q ↔ (0 ≤ x ∧ x < f 5 3 ∧ 0 ≤ y ∧ y < f 5 2 ∧ 0 ≤ z ∧ z < f 5 0 ∧ 0 ≤ w ∧ w < f 5 1 → Q (hh f a g, .returned (some (.int (xI (1)))))) ∧ (¬ (0 ≤ x ∧ x < f 5 3 ∧ 0 ≤ y ∧ y < f 5 2 ∧ 0 ≤ z ∧ z < f 5 0 ∧ 0 ≤ w ∧ w < f 5 1) → Q (hh f a g, .returned (some (.int (xI (0)))))) := by
  rw [e37]
  simp (config := {contextual := true, maxSteps := 1000000}) (disch := omega) only [r37_0, r37_1, r37_4, r37_5, r37_6, r37_6_1, r37_9, r37_12, r37_13, r37_16, r37_17, r37_18, r37_18_1, r37_21, r37_24, r37_25, r37_28, r37_29, r37_30, r37_30_1, r37_33, r37_36, r37_38, r37_41, r37_43, r37_44, r37_44_1, r37_47, r37_50, r37_51, r37_54, r37_55, xAf_none, xAf_some, xu_app, Nat.reduceAdd, Nat.reduceSub, Nat.reduceEqDiff, Nat.reduceMul, reduceIte, and_self, and_true, true_and, and_false, false_and, true_implies, false_implies, implies_true, not_true_eq_false, not_false_eq_true, Int.reduceToNat, Int.reducePow, Int.reduceNeg, Int.reduceLT, Int.reduceLE, Int.reduceAdd, Int.reduceSub, Int.reduceMul, Int.reduceDiv, Int.reduceMod, Int.reduceEq, xA_1, xA_15, xA_255, xA_511, xA_65535, xA_32768]
  grind
theorem s_isPlace (x0 : -2147483648 ≤ x) (x1 : x ≤ 2147483647) (y0 : -2147483648 ≤ y) (y1 : y ≤ 2147483647) (z0 : -2147483648 ≤ z) (z1 : z ≤ 2147483647) (w0 : -2147483648 ≤ w) (w1 : w ≤ 2147483647) (f0 : 0 ≤ f 21 1 ∧ f 21 1 ≤ 6) (f1 : 0 ≤ f 21 2 ∧ f 21 2 ≤ 6) (f2 : 0 ≤ f 21 3 ∧ f 21 3 ≤ 3) (f3 : 0 ≤ f 21 4 ∧ f 21 4 ≤ 3) (hd : 1 ≤ d) : xTC d 159 [.ref 21, .int (xI x), .int (xI y), .int (xI z), .int (xI w)] (hh f a g) Q ↔ (0 ≤ x ∧ x < f 21 4 ∧ 0 ≤ y ∧ y < f 21 3 ∧ 0 ≤ z ∧ z < f 21 1 ∧ 0 ≤ w ∧ w < f 21 2 → Q (hh f a g, .returned (some (.int (xI (1)))))) ∧ (¬ (0 ≤ x ∧ x < f 21 4 ∧ 0 ≤ y ∧ y < f 21 3 ∧ 0 ≤ z ∧ z < f 21 1 ∧ 0 ≤ w ∧ w < f 21 2) → Q (hh f a g, .returned (some (.int (xI (0)))))) := by
  rw [e159]
  simp (config := {contextual := true, maxSteps := 1000000}) (disch := omega) only [r159_0, r159_1, r159_2, r159_3, r159_6, r159_7, r159_8, r159_11, r159_14, r159_15, r159_16, r159_17, r159_20, r159_21, r159_22, r159_25, r159_28, r159_29, r159_30, r159_31, r159_34, r159_35, r159_36, r159_39, r159_42, r159_44, r159_45, r159_46, r159_49, r159_50, r159_51, r159_54, r159_57, r159_58, r159_61, r159_62, s_between, xAf_none, xAf_some, xu_app, Nat.reduceAdd, Nat.reduceSub, Nat.reduceEqDiff, Nat.reduceMul, reduceIte, and_self, and_true, true_and, and_false, false_and, true_implies, false_implies, implies_true, not_true_eq_false, not_false_eq_true, Int.reduceToNat, Int.reducePow, Int.reduceNeg, Int.reduceLT, Int.reduceLE, Int.reduceAdd, Int.reduceSub, Int.reduceMul, Int.reduceDiv, Int.reduceMod, Int.reduceEq, xA_1, xA_15, xA_255, xA_511, xA_65535, xA_32768]
  grind
end S32
