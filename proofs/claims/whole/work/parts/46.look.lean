/-! BEGINNINGS; WHAT LIES AROUND A PLACE -/
def mid (x y z : Int) : Int := max (min x y) (min (max x y) z)
def stp (x : Int) : Int := if 4 < x then 2 else if 0 < x then 1 else if x < -4 then -2 else if x < 0 then -1 else 0
def lkT (V : Int → Int) (pl fr : Int) : Int := if fr = 1 then 0 else V (pl - 6)
def lkL (V : Int → Int) (pl x fr : Int) : Int := if x = 0 then lkT V pl fr else V (pl - 1)
def lkTL (V : Int → Int) (pl x fr : Int) : Int := if fr = 1 then 0 else if x = 0 then lkT V pl fr else V (pl - 6 - 1)
def lkTR (V : Int → Int) (pl fr la : Int) : Int := if fr = 1 then 0 else if la = 1 then lkT V pl fr else V (pl - 6 + 1)
def lkG (V : Int → Int) (pl x fr : Int) : Int := mid (lkL V pl x fr) (lkT V pl fr) (lkL V pl x fr + lkT V pl fr - lkTL V pl x fr)
def lkK (V : Int → Int) (pl x fr la : Int) : Int := 25 * stp (lkL V pl x fr - lkTL V pl x fr) + 5 * stp (lkTL V pl x fr - lkT V pl fr) + stp (lkT V pl fr - lkTR V pl fr la)
def wi0 (x : Int) : Int := (x + 128) % 256 - 128
def wi1 (x : Int) : Int := (x + 256) % 512 - 256
def afl (a : Nat → Int → Int) (o : Nat) (N v : Int) : Nat → Int → Int := fun i j => if i = o ∧ 0 ≤ j ∧ j < N then v else a i j
theorem stp_bd (x : Int) : -2 ≤ stp x ∧ stp x ≤ 2 := by unfold stp; repeat' split
                                                        all_goals omega
theorem lkK_bd (V : Int → Int) (pl x fr la : Int) : -62 ≤ lkK V pl x fr la ∧ lkK V pl x fr la ≤ 62 := by
  unfold lkK
  have h1 := stp_bd (lkL V pl x fr - lkTL V pl x fr)
  have h2 := stp_bd (lkTL V pl x fr - lkT V pl fr)
  have h3 := stp_bd (lkT V pl fr - lkTR V pl fr la)
  omega
section S46
variable {d : Nat} {Q : xm_H × Outcome → Prop} {f : Nat → Nat → Int} {a : Nat → Int → Int} {g : xG} {h : xm_H} {x y z v w : Int} {A : List Int}
theorem s_mid (hd : 1 ≤ d) (x0 : -100000 ≤ x) (x1 : x ≤ 100000) (y0 : -100000 ≤ y) (y1 : y ≤ 100000) (z0 : -100000 ≤ z) (z1 : z ≤ 100000) : xTC d 77 [.int (xI x), .int (xI y), .int (xI z)] h Q ↔ Q (h, .returned (some (.int (xI (mid x y z))))) := by
  rw [e77]
  by_cases c1 : y < x
  · by_cases c2 : z < x
    · by_cases c3 : y < z
      · have e : mid x y z = z := by unfold mid; omega
        rw [e]; simp (config := {contextual := true, maxSteps := 1000000}) (disch := omega) only [r77_0, r77_1, r77_2_T, r77_2_F, r77_2, r77_5, r77_6, r77_7_T, r77_7_F, r77_7, r77_10, r77_11_T, r77_11_F, r77_11, r77_14_T, r77_14_F, r77_14, r77_17, xAf_none, xAf_some, xu_app, Nat.reduceAdd, Nat.reduceSub, Nat.reduceEqDiff, Nat.reduceMul, reduceIte, and_self, and_true, true_and, and_false, false_and, true_implies, false_implies, implies_true, not_true_eq_false, not_false_eq_true, Int.reduceToNat, Int.reducePow, Int.reduceNeg, Int.reduceLT, Int.reduceLE, Int.reduceAdd, Int.reduceSub, Int.reduceMul, Int.reduceDiv, Int.reduceMod, Int.reduceEq, xA_1, xA_15, xA_255, xA_511, xA_65535, xA_32768]
      · have e : mid x y z = y := by unfold mid; omega
        rw [e]; simp (config := {contextual := true, maxSteps := 1000000}) (disch := omega) only [r77_0, r77_1, r77_2_T, r77_2_F, r77_2, r77_5, r77_6, r77_7_T, r77_7_F, r77_7, r77_10, r77_11_T, r77_11_F, r77_11, r77_14_T, r77_14_F, r77_14, r77_17, xAf_none, xAf_some, xu_app, Nat.reduceAdd, Nat.reduceSub, Nat.reduceEqDiff, Nat.reduceMul, reduceIte, and_self, and_true, true_and, and_false, false_and, true_implies, false_implies, implies_true, not_true_eq_false, not_false_eq_true, Int.reduceToNat, Int.reducePow, Int.reduceNeg, Int.reduceLT, Int.reduceLE, Int.reduceAdd, Int.reduceSub, Int.reduceMul, Int.reduceDiv, Int.reduceMod, Int.reduceEq, xA_1, xA_15, xA_255, xA_511, xA_65535, xA_32768]
    · have e : mid x y z = x := by unfold mid; omega
      rw [e]; simp (config := {contextual := true, maxSteps := 1000000}) (disch := omega) only [r77_0, r77_1, r77_2_T, r77_2_F, r77_2, r77_5, r77_6, r77_7_T, r77_7_F, r77_7, r77_10, r77_11_T, r77_11_F, r77_11, r77_14_T, r77_14_F, r77_14, r77_17, xAf_none, xAf_some, xu_app, Nat.reduceAdd, Nat.reduceSub, Nat.reduceEqDiff, Nat.reduceMul, reduceIte, and_self, and_true, true_and, and_false, false_and, true_implies, false_implies, implies_true, not_true_eq_false, not_false_eq_true, Int.reduceToNat, Int.reducePow, Int.reduceNeg, Int.reduceLT, Int.reduceLE, Int.reduceAdd, Int.reduceSub, Int.reduceMul, Int.reduceDiv, Int.reduceMod, Int.reduceEq, xA_1, xA_15, xA_255, xA_511, xA_65535, xA_32768]
  · by_cases c2 : x < y
    · by_cases c3 : z < y
      · by_cases c4 : x < z
        · have e : mid x y z = z := by unfold mid; omega
          rw [e]; simp (config := {contextual := true, maxSteps := 1000000}) (disch := omega) only [r77_0, r77_1, r77_2_T, r77_2_F, r77_2, r77_5, r77_6, r77_7_T, r77_7_F, r77_7, r77_10, r77_11_T, r77_11_F, r77_11, r77_14_T, r77_14_F, r77_14, r77_17, xAf_none, xAf_some, xu_app, Nat.reduceAdd, Nat.reduceSub, Nat.reduceEqDiff, Nat.reduceMul, reduceIte, and_self, and_true, true_and, and_false, false_and, true_implies, false_implies, implies_true, not_true_eq_false, not_false_eq_true, Int.reduceToNat, Int.reducePow, Int.reduceNeg, Int.reduceLT, Int.reduceLE, Int.reduceAdd, Int.reduceSub, Int.reduceMul, Int.reduceDiv, Int.reduceMod, Int.reduceEq, xA_1, xA_15, xA_255, xA_511, xA_65535, xA_32768]
        · have e : mid x y z = x := by unfold mid; omega
          rw [e]; simp (config := {contextual := true, maxSteps := 1000000}) (disch := omega) only [r77_0, r77_1, r77_2_T, r77_2_F, r77_2, r77_5, r77_6, r77_7_T, r77_7_F, r77_7, r77_10, r77_11_T, r77_11_F, r77_11, r77_14_T, r77_14_F, r77_14, r77_17, xAf_none, xAf_some, xu_app, Nat.reduceAdd, Nat.reduceSub, Nat.reduceEqDiff, Nat.reduceMul, reduceIte, and_self, and_true, true_and, and_false, false_and, true_implies, false_implies, implies_true, not_true_eq_false, not_false_eq_true, Int.reduceToNat, Int.reducePow, Int.reduceNeg, Int.reduceLT, Int.reduceLE, Int.reduceAdd, Int.reduceSub, Int.reduceMul, Int.reduceDiv, Int.reduceMod, Int.reduceEq, xA_1, xA_15, xA_255, xA_511, xA_65535, xA_32768]
      · have e : mid x y z = y := by unfold mid; omega
        rw [e]; simp (config := {contextual := true, maxSteps := 1000000}) (disch := omega) only [r77_0, r77_1, r77_2_T, r77_2_F, r77_2, r77_5, r77_6, r77_7_T, r77_7_F, r77_7, r77_10, r77_11_T, r77_11_F, r77_11, r77_14_T, r77_14_F, r77_14, r77_17, xAf_none, xAf_some, xu_app, Nat.reduceAdd, Nat.reduceSub, Nat.reduceEqDiff, Nat.reduceMul, reduceIte, and_self, and_true, true_and, and_false, false_and, true_implies, false_implies, implies_true, not_true_eq_false, not_false_eq_true, Int.reduceToNat, Int.reducePow, Int.reduceNeg, Int.reduceLT, Int.reduceLE, Int.reduceAdd, Int.reduceSub, Int.reduceMul, Int.reduceDiv, Int.reduceMod, Int.reduceEq, xA_1, xA_15, xA_255, xA_511, xA_65535, xA_32768]
    · by_cases c3 : z < x
      · have e : mid x y z = x := by unfold mid; omega
        rw [e]; simp (config := {contextual := true, maxSteps := 1000000}) (disch := omega) only [r77_0, r77_1, r77_2_T, r77_2_F, r77_2, r77_5, r77_6, r77_7_T, r77_7_F, r77_7, r77_10, r77_11_T, r77_11_F, r77_11, r77_14_T, r77_14_F, r77_14, r77_17, xAf_none, xAf_some, xu_app, Nat.reduceAdd, Nat.reduceSub, Nat.reduceEqDiff, Nat.reduceMul, reduceIte, and_self, and_true, true_and, and_false, false_and, true_implies, false_implies, implies_true, not_true_eq_false, not_false_eq_true, Int.reduceToNat, Int.reducePow, Int.reduceNeg, Int.reduceLT, Int.reduceLE, Int.reduceAdd, Int.reduceSub, Int.reduceMul, Int.reduceDiv, Int.reduceMod, Int.reduceEq, xA_1, xA_15, xA_255, xA_511, xA_65535, xA_32768]
      · have e : mid x y z = x := by unfold mid; omega
        rw [e]; simp (config := {contextual := true, maxSteps := 1000000}) (disch := omega) only [r77_0, r77_1, r77_2_T, r77_2_F, r77_2, r77_5, r77_6, r77_7_T, r77_7_F, r77_7, r77_10, r77_11_T, r77_11_F, r77_11, r77_14_T, r77_14_F, r77_14, r77_17, xAf_none, xAf_some, xu_app, Nat.reduceAdd, Nat.reduceSub, Nat.reduceEqDiff, Nat.reduceMul, reduceIte, and_self, and_true, true_and, and_false, false_and, true_implies, false_implies, implies_true, not_true_eq_false, not_false_eq_true, Int.reduceToNat, Int.reducePow, Int.reduceNeg, Int.reduceLT, Int.reduceLE, Int.reduceAdd, Int.reduceSub, Int.reduceMul, Int.reduceDiv, Int.reduceMod, Int.reduceEq, xA_1, xA_15, xA_255, xA_511, xA_65535, xA_32768]
theorem s_stp (hd : 1 ≤ d) (x0 : -100000 ≤ x) (x1 : x ≤ 100000) : xTC d 78 [.int (xI x)] h Q ↔ Q (h, .returned (some (.int (xI (stp x))))) := by
  rw [e78]
  unfold stp
  by_cases c1 : 4 < x
  · rw [if_pos c1]; simp (config := {contextual := true, maxSteps := 1000000}) (disch := omega) only [r78_0, r78_1_T, r78_1_F, r78_1, r78_4, r78_5, r78_8, r78_9_T, r78_9_F, r78_9, r78_12, r78_13_T, r78_13_F, r78_13, r78_16, r78_17, r78_20, r78_21, r78_22, r78_23_T, r78_23_F, r78_23, r78_26, r78_27, r78_28, r78_31, r78_32, xAf_none, xAf_some, xu_app, Nat.reduceAdd, Nat.reduceSub, Nat.reduceEqDiff, Nat.reduceMul, reduceIte, and_self, and_true, true_and, and_false, false_and, true_implies, false_implies, implies_true, not_true_eq_false, not_false_eq_true, Int.reduceToNat, Int.reducePow, Int.reduceNeg, Int.reduceLT, Int.reduceLE, Int.reduceAdd, Int.reduceSub, Int.reduceMul, Int.reduceDiv, Int.reduceMod, Int.reduceEq, xA_1, xA_15, xA_255, xA_511, xA_65535, xA_32768]
  · rw [if_neg c1]
    by_cases c2 : 0 < x
    · rw [if_pos c2]; simp (config := {contextual := true, maxSteps := 1000000}) (disch := omega) only [r78_0, r78_1_T, r78_1_F, r78_1, r78_4, r78_5, r78_8, r78_9_T, r78_9_F, r78_9, r78_12, r78_13_T, r78_13_F, r78_13, r78_16, r78_17, r78_20, r78_21, r78_22, r78_23_T, r78_23_F, r78_23, r78_26, r78_27, r78_28, r78_31, r78_32, xAf_none, xAf_some, xu_app, Nat.reduceAdd, Nat.reduceSub, Nat.reduceEqDiff, Nat.reduceMul, reduceIte, and_self, and_true, true_and, and_false, false_and, true_implies, false_implies, implies_true, not_true_eq_false, not_false_eq_true, Int.reduceToNat, Int.reducePow, Int.reduceNeg, Int.reduceLT, Int.reduceLE, Int.reduceAdd, Int.reduceSub, Int.reduceMul, Int.reduceDiv, Int.reduceMod, Int.reduceEq, xA_1, xA_15, xA_255, xA_511, xA_65535, xA_32768]
    · rw [if_neg c2]
      by_cases c3 : x < -4
      · rw [if_pos c3]; simp (config := {contextual := true, maxSteps := 1000000}) (disch := omega) only [r78_0, r78_1_T, r78_1_F, r78_1, r78_4, r78_5, r78_8, r78_9_T, r78_9_F, r78_9, r78_12, r78_13_T, r78_13_F, r78_13, r78_16, r78_17, r78_20, r78_21, r78_22, r78_23_T, r78_23_F, r78_23, r78_26, r78_27, r78_28, r78_31, r78_32, xAf_none, xAf_some, xu_app, Nat.reduceAdd, Nat.reduceSub, Nat.reduceEqDiff, Nat.reduceMul, reduceIte, and_self, and_true, true_and, and_false, false_and, true_implies, false_implies, implies_true, not_true_eq_false, not_false_eq_true, Int.reduceToNat, Int.reducePow, Int.reduceNeg, Int.reduceLT, Int.reduceLE, Int.reduceAdd, Int.reduceSub, Int.reduceMul, Int.reduceDiv, Int.reduceMod, Int.reduceEq, xA_1, xA_15, xA_255, xA_511, xA_65535, xA_32768]
      · rw [if_neg c3]
        by_cases c4 : x < 0
        · rw [if_pos c4]; simp (config := {contextual := true, maxSteps := 1000000}) (disch := omega) only [r78_0, r78_1_T, r78_1_F, r78_1, r78_4, r78_5, r78_8, r78_9_T, r78_9_F, r78_9, r78_12, r78_13_T, r78_13_F, r78_13, r78_16, r78_17, r78_20, r78_21, r78_22, r78_23_T, r78_23_F, r78_23, r78_26, r78_27, r78_28, r78_31, r78_32, xAf_none, xAf_some, xu_app, Nat.reduceAdd, Nat.reduceSub, Nat.reduceEqDiff, Nat.reduceMul, reduceIte, and_self, and_true, true_and, and_false, false_and, true_implies, false_implies, implies_true, not_true_eq_false, not_false_eq_true, Int.reduceToNat, Int.reducePow, Int.reduceNeg, Int.reduceLT, Int.reduceLE, Int.reduceAdd, Int.reduceSub, Int.reduceMul, Int.reduceDiv, Int.reduceMod, Int.reduceEq, xA_1, xA_15, xA_255, xA_511, xA_65535, xA_32768]
        · rw [if_neg c4]
          have : x = 0 := by omega
          subst this
          simp (config := {contextual := true, maxSteps := 1000000}) (disch := omega) only [r78_0, r78_1_T, r78_1_F, r78_1, r78_4, r78_5, r78_8, r78_9_T, r78_9_F, r78_9, r78_12, r78_13_T, r78_13_F, r78_13, r78_16, r78_17, r78_20, r78_21, r78_22, r78_23_T, r78_23_F, r78_23, r78_26, r78_27, r78_28, r78_31, r78_32, xAf_none, xAf_some, xu_app, Nat.reduceAdd, Nat.reduceSub, Nat.reduceEqDiff, Nat.reduceMul, reduceIte, and_self, and_true, true_and, and_false, false_and, true_implies, false_implies, implies_true, not_true_eq_false, not_false_eq_true, Int.reduceToNat, Int.reducePow, Int.reduceNeg, Int.reduceLT, Int.reduceLE, Int.reduceAdd, Int.reduceSub, Int.reduceMul, Int.reduceDiv, Int.reduceMod, Int.reduceEq, xA_1, xA_15, xA_255, xA_511, xA_65535, xA_32768]
theorem s_wi0 : xTC d 69 [.int (xI x), .int (xI 128)] h Q ↔ Q (h, .returned (some (.int (xI (wi0 x))))) := by
  rw [e69]
  simp (config := {contextual := true, maxSteps := 1000000}) (disch := omega) only [r69_0, r69_1, r69_2, r69_3, r69_4, r69_5, r69_6, r69_7, r69_8, r69_9, r69_10, r69_11, xAf_none, xAf_some, xu_app, Nat.reduceAdd, Nat.reduceSub, Nat.reduceEqDiff, Nat.reduceMul, reduceIte, and_self, and_true, true_and, and_false, false_and, true_implies, false_implies, implies_true, not_true_eq_false, not_false_eq_true, Int.reduceToNat, Int.reducePow, Int.reduceNeg, Int.reduceLT, Int.reduceLE, Int.reduceAdd, Int.reduceSub, Int.reduceMul, Int.reduceDiv, Int.reduceMod, Int.reduceEq, xA_1, xA_15, xA_255, xA_511, xA_65535, xA_32768]
  rfl
theorem s_wi1 : xTC d 69 [.int (xI x), .int (xI 256)] h Q ↔ Q (h, .returned (some (.int (xI (wi1 x))))) := by
  rw [e69]
  simp (config := {contextual := true, maxSteps := 1000000}) (disch := omega) only [r69_0, r69_1, r69_2, r69_3, r69_4, r69_5, r69_6, r69_7, r69_8, r69_9, r69_10, r69_11, xAf_none, xAf_some, xu_app, Nat.reduceAdd, Nat.reduceSub, Nat.reduceEqDiff, Nat.reduceMul, reduceIte, and_self, and_true, true_and, and_false, false_and, true_implies, false_implies, implies_true, not_true_eq_false, not_false_eq_true, Int.reduceToNat, Int.reducePow, Int.reduceNeg, Int.reduceLT, Int.reduceLE, Int.reduceAdd, Int.reduceSub, Int.reduceMul, Int.reduceDiv, Int.reduceMod, Int.reduceEq, xA_1, xA_15, xA_255, xA_511, xA_65535, xA_32768]
  rfl
set_option maxRecDepth 100000 in
theorem s_look (hV : ∀ j, -1000 ≤ a 13 j ∧ a 13 j ≤ 1000) (hd : 2 ≤ d) (x0 : 0 ≤ x) (x1 : x < 108) (y0 : 0 ≤ y) (y1 : y ≤ 5) (hz : z = 0 ∨ z = 1) (hw : w = 0 ∨ w = 1) (h1 : z = 0 → 6 ≤ x) (h2 : y ≠ 0 → 1 ≤ x) (h3 : z = 0 → y ≠ 0 → 7 ≤ x) : xTC d 76 [.ref 12, .int (xI x), .int (xI y), .int (xI z), .int (xI w)] (hh f a g) Q ↔ Q (hh (xu (xu f 12 1 (lkG (a 13) x y z)) 12 2 (lkK (a 13) x y z w)) a g, .returned none) := by
  rw [e76]
  have hT : lkT (a 13) x z = if z = 1 then 0 else a 13 (x - 6) := rfl
  have v1 := hV (x - 6)
  have v2 := hV (x - 1)
  have v3 := hV (x - 6 - 1)
  have v4 := hV (x - 6 + 1)
  unfold lkG lkK
  by_cases cz : z = 1
  · subst cz
    have eT : lkT (a 13) x 1 = 0 := if_pos rfl
    have eTL : lkTL (a 13) x y 1 = 0 := if_pos rfl
    have eTR : lkTR (a 13) x 1 w = 0 := if_pos rfl
    rw [eT, eTL, eTR]
    by_cases cy : y = 0
    · have eL : lkL (a 13) x y 1 = 0 := by unfold lkL; rw [if_pos cy, eT]
      rw [eL]; subst cy
      simp (config := {contextual := true, maxSteps := 1000000}) (disch := omega) only [r76_0, r76_1_T, r76_1_F, r76_1, r76_4, r76_5, r76_8, r76_9, r76_12, r76_13, r76_15, r76_16, r76_17, r76_19, r76_20_T, r76_20_F, r76_20, r76_23, r76_25, r76_28, r76_29, r76_32, r76_33, r76_34, r76_35, r76_36, r76_38, r76_39_T, r76_39_F, r76_39, r76_42, r76_43, r76_46, r76_47_T, r76_47_F, r76_47, r76_50, r76_52, r76_55, r76_56, r76_59, r76_60, r76_62, r76_63, r76_64, r76_65, r76_66, r76_68, r76_69_T, r76_69_F, r76_69, r76_72, r76_73, r76_76, r76_78_T, r76_78_F, r76_78, r76_81, r76_83, r76_86, r76_87, r76_90, r76_91, r76_93, r76_94, r76_95, r76_96, r76_97, r76_99, r76_100, r76_102, r76_104, r76_106, r76_108, r76_109, r76_111, r76_112, r76_115, r76_118, r76_119, r76_121, r76_123, r76_125, r76_126, r76_129, r76_130, r76_131, r76_133, r76_135, r76_136, r76_139, r76_140, r76_141, r76_143, r76_145, r76_146, r76_149, r76_150, r76_153, s_mid, s_stp, xAf_none, xAf_some, xu_app, Nat.reduceAdd, Nat.reduceSub, Nat.reduceEqDiff, Nat.reduceMul, reduceIte, and_self, and_true, true_and, and_false, false_and, true_implies, false_implies, implies_true, not_true_eq_false, not_false_eq_true, Int.reduceToNat, Int.reducePow, Int.reduceNeg, Int.reduceLT, Int.reduceLE, Int.reduceAdd, Int.reduceSub, Int.reduceMul, Int.reduceDiv, Int.reduceMod, Int.reduceEq, xA_1, xA_15, xA_255, xA_511, xA_65535, xA_32768]
    · have eL : lkL (a 13) x y 1 = a 13 (x - 1) := by unfold lkL; rw [if_neg cy]
      rw [eL]
      simp (config := {contextual := true, maxSteps := 1000000}) (disch := omega) only [r76_0, r76_1_T, r76_1_F, r76_1, r76_4, r76_5, r76_8, r76_9, r76_12, r76_13, r76_15, r76_16, r76_17, r76_19, r76_20_T, r76_20_F, r76_20, r76_23, r76_25, r76_28, r76_29, r76_32, r76_33, r76_34, r76_35, r76_36, r76_38, r76_39_T, r76_39_F, r76_39, r76_42, r76_43, r76_46, r76_47_T, r76_47_F, r76_47, r76_50, r76_52, r76_55, r76_56, r76_59, r76_60, r76_62, r76_63, r76_64, r76_65, r76_66, r76_68, r76_69_T, r76_69_F, r76_69, r76_72, r76_73, r76_76, r76_78_T, r76_78_F, r76_78, r76_81, r76_83, r76_86, r76_87, r76_90, r76_91, r76_93, r76_94, r76_95, r76_96, r76_97, r76_99, r76_100, r76_102, r76_104, r76_106, r76_108, r76_109, r76_111, r76_112, r76_115, r76_118, r76_119, r76_121, r76_123, r76_125, r76_126, r76_129, r76_130, r76_131, r76_133, r76_135, r76_136, r76_139, r76_140, r76_141, r76_143, r76_145, r76_146, r76_149, r76_150, r76_153, s_mid, s_stp, xAf_none, xAf_some, xu_app, Nat.reduceAdd, Nat.reduceSub, Nat.reduceEqDiff, Nat.reduceMul, reduceIte, and_self, and_true, true_and, and_false, false_and, true_implies, false_implies, implies_true, not_true_eq_false, not_false_eq_true, Int.reduceToNat, Int.reducePow, Int.reduceNeg, Int.reduceLT, Int.reduceLE, Int.reduceAdd, Int.reduceSub, Int.reduceMul, Int.reduceDiv, Int.reduceMod, Int.reduceEq, xA_1, xA_15, xA_255, xA_511, xA_65535, xA_32768]
  · have hz0 : z = 0 := by omega
    subst hz0
    have eT : lkT (a 13) x 0 = a 13 (x - 6) := if_neg (by omega)
    by_cases cy : y = 0
    · have eL : lkL (a 13) x y 0 = a 13 (x - 6) := by unfold lkL; rw [if_pos cy, eT]
      have eTL : lkTL (a 13) x y 0 = a 13 (x - 6) := by unfold lkTL; rw [if_neg (by omega), if_pos cy, eT]
      by_cases cw : w = 1
      · have eTR : lkTR (a 13) x 0 w = a 13 (x - 6) := by unfold lkTR; rw [if_neg (by omega), if_pos cw, eT]
        rw [eT, eL, eTL, eTR]; subst cy; subst cw
        simp (config := {contextual := true, maxSteps := 1000000}) (disch := omega) only [r76_0, r76_1_T, r76_1_F, r76_1, r76_4, r76_5, r76_8, r76_9, r76_12, r76_13, r76_15, r76_16, r76_17, r76_19, r76_20_T, r76_20_F, r76_20, r76_23, r76_25, r76_28, r76_29, r76_32, r76_33, r76_34, r76_35, r76_36, r76_38, r76_39_T, r76_39_F, r76_39, r76_42, r76_43, r76_46, r76_47_T, r76_47_F, r76_47, r76_50, r76_52, r76_55, r76_56, r76_59, r76_60, r76_62, r76_63, r76_64, r76_65, r76_66, r76_68, r76_69_T, r76_69_F, r76_69, r76_72, r76_73, r76_76, r76_78_T, r76_78_F, r76_78, r76_81, r76_83, r76_86, r76_87, r76_90, r76_91, r76_93, r76_94, r76_95, r76_96, r76_97, r76_99, r76_100, r76_102, r76_104, r76_106, r76_108, r76_109, r76_111, r76_112, r76_115, r76_118, r76_119, r76_121, r76_123, r76_125, r76_126, r76_129, r76_130, r76_131, r76_133, r76_135, r76_136, r76_139, r76_140, r76_141, r76_143, r76_145, r76_146, r76_149, r76_150, r76_153, s_mid, s_stp, xAf_none, xAf_some, xu_app, Nat.reduceAdd, Nat.reduceSub, Nat.reduceEqDiff, Nat.reduceMul, reduceIte, and_self, and_true, true_and, and_false, false_and, true_implies, false_implies, implies_true, not_true_eq_false, not_false_eq_true, Int.reduceToNat, Int.reducePow, Int.reduceNeg, Int.reduceLT, Int.reduceLE, Int.reduceAdd, Int.reduceSub, Int.reduceMul, Int.reduceDiv, Int.reduceMod, Int.reduceEq, xA_1, xA_15, xA_255, xA_511, xA_65535, xA_32768]
      · have hw0 : w = 0 := by omega
        have eTR : lkTR (a 13) x 0 w = a 13 (x - 6 + 1) := by unfold lkTR; rw [if_neg (by omega), if_neg cw]
        rw [eT, eL, eTL, eTR]; subst cy; subst hw0
        simp (config := {contextual := true, maxSteps := 1000000}) (disch := omega) only [r76_0, r76_1_T, r76_1_F, r76_1, r76_4, r76_5, r76_8, r76_9, r76_12, r76_13, r76_15, r76_16, r76_17, r76_19, r76_20_T, r76_20_F, r76_20, r76_23, r76_25, r76_28, r76_29, r76_32, r76_33, r76_34, r76_35, r76_36, r76_38, r76_39_T, r76_39_F, r76_39, r76_42, r76_43, r76_46, r76_47_T, r76_47_F, r76_47, r76_50, r76_52, r76_55, r76_56, r76_59, r76_60, r76_62, r76_63, r76_64, r76_65, r76_66, r76_68, r76_69_T, r76_69_F, r76_69, r76_72, r76_73, r76_76, r76_78_T, r76_78_F, r76_78, r76_81, r76_83, r76_86, r76_87, r76_90, r76_91, r76_93, r76_94, r76_95, r76_96, r76_97, r76_99, r76_100, r76_102, r76_104, r76_106, r76_108, r76_109, r76_111, r76_112, r76_115, r76_118, r76_119, r76_121, r76_123, r76_125, r76_126, r76_129, r76_130, r76_131, r76_133, r76_135, r76_136, r76_139, r76_140, r76_141, r76_143, r76_145, r76_146, r76_149, r76_150, r76_153, s_mid, s_stp, xAf_none, xAf_some, xu_app, Nat.reduceAdd, Nat.reduceSub, Nat.reduceEqDiff, Nat.reduceMul, reduceIte, and_self, and_true, true_and, and_false, false_and, true_implies, false_implies, implies_true, not_true_eq_false, not_false_eq_true, Int.reduceToNat, Int.reducePow, Int.reduceNeg, Int.reduceLT, Int.reduceLE, Int.reduceAdd, Int.reduceSub, Int.reduceMul, Int.reduceDiv, Int.reduceMod, Int.reduceEq, xA_1, xA_15, xA_255, xA_511, xA_65535, xA_32768]
    · have eL : lkL (a 13) x y 0 = a 13 (x - 1) := by unfold lkL; rw [if_neg cy]
      have eTL : lkTL (a 13) x y 0 = a 13 (x - 6 - 1) := by unfold lkTL; rw [if_neg (by omega), if_neg cy]
      by_cases cw : w = 1
      · have eTR : lkTR (a 13) x 0 w = a 13 (x - 6) := by unfold lkTR; rw [if_neg (by omega), if_pos cw, eT]
        rw [eT, eL, eTL, eTR]; subst cw
        simp (config := {contextual := true, maxSteps := 1000000}) (disch := omega) only [r76_0, r76_1_T, r76_1_F, r76_1, r76_4, r76_5, r76_8, r76_9, r76_12, r76_13, r76_15, r76_16, r76_17, r76_19, r76_20_T, r76_20_F, r76_20, r76_23, r76_25, r76_28, r76_29, r76_32, r76_33, r76_34, r76_35, r76_36, r76_38, r76_39_T, r76_39_F, r76_39, r76_42, r76_43, r76_46, r76_47_T, r76_47_F, r76_47, r76_50, r76_52, r76_55, r76_56, r76_59, r76_60, r76_62, r76_63, r76_64, r76_65, r76_66, r76_68, r76_69_T, r76_69_F, r76_69, r76_72, r76_73, r76_76, r76_78_T, r76_78_F, r76_78, r76_81, r76_83, r76_86, r76_87, r76_90, r76_91, r76_93, r76_94, r76_95, r76_96, r76_97, r76_99, r76_100, r76_102, r76_104, r76_106, r76_108, r76_109, r76_111, r76_112, r76_115, r76_118, r76_119, r76_121, r76_123, r76_125, r76_126, r76_129, r76_130, r76_131, r76_133, r76_135, r76_136, r76_139, r76_140, r76_141, r76_143, r76_145, r76_146, r76_149, r76_150, r76_153, s_mid, s_stp, xAf_none, xAf_some, xu_app, Nat.reduceAdd, Nat.reduceSub, Nat.reduceEqDiff, Nat.reduceMul, reduceIte, and_self, and_true, true_and, and_false, false_and, true_implies, false_implies, implies_true, not_true_eq_false, not_false_eq_true, Int.reduceToNat, Int.reducePow, Int.reduceNeg, Int.reduceLT, Int.reduceLE, Int.reduceAdd, Int.reduceSub, Int.reduceMul, Int.reduceDiv, Int.reduceMod, Int.reduceEq, xA_1, xA_15, xA_255, xA_511, xA_65535, xA_32768]
      · have hw0 : w = 0 := by omega
        have eTR : lkTR (a 13) x 0 w = a 13 (x - 6 + 1) := by unfold lkTR; rw [if_neg (by omega), if_neg cw]
        rw [eT, eL, eTL, eTR]; subst hw0
        simp (config := {contextual := true, maxSteps := 1000000}) (disch := omega) only [r76_0, r76_1_T, r76_1_F, r76_1, r76_4, r76_5, r76_8, r76_9, r76_12, r76_13, r76_15, r76_16, r76_17, r76_19, r76_20_T, r76_20_F, r76_20, r76_23, r76_25, r76_28, r76_29, r76_32, r76_33, r76_34, r76_35, r76_36, r76_38, r76_39_T, r76_39_F, r76_39, r76_42, r76_43, r76_46, r76_47_T, r76_47_F, r76_47, r76_50, r76_52, r76_55, r76_56, r76_59, r76_60, r76_62, r76_63, r76_64, r76_65, r76_66, r76_68, r76_69_T, r76_69_F, r76_69, r76_72, r76_73, r76_76, r76_78_T, r76_78_F, r76_78, r76_81, r76_83, r76_86, r76_87, r76_90, r76_91, r76_93, r76_94, r76_95, r76_96, r76_97, r76_99, r76_100, r76_102, r76_104, r76_106, r76_108, r76_109, r76_111, r76_112, r76_115, r76_118, r76_119, r76_121, r76_123, r76_125, r76_126, r76_129, r76_130, r76_131, r76_133, r76_135, r76_136, r76_139, r76_140, r76_141, r76_143, r76_145, r76_146, r76_149, r76_150, r76_153, s_mid, s_stp, xAf_none, xAf_some, xu_app, Nat.reduceAdd, Nat.reduceSub, Nat.reduceEqDiff, Nat.reduceMul, reduceIte, and_self, and_true, true_and, and_false, false_and, true_implies, false_implies, implies_true, not_true_eq_false, not_false_eq_true, Int.reduceToNat, Int.reducePow, Int.reduceNeg, Int.reduceLT, Int.reduceLE, Int.reduceAdd, Int.reduceSub, Int.reduceMul, Int.reduceDiv, Int.reduceMod, Int.reduceEq, xA_1, xA_15, xA_255, xA_511, xA_65535, xA_32768]
theorem l_fill15 (n : Nat) : ∀ (a : Nat → Int → Int) (i : Int), i + n = 126 → 0 ≤ i → Q (hh f (fun c j => if c = 15 ∧ i ≤ j ∧ j < 126 then v else a c j) g, .returned none) → xT d 163 5 [.ref 15, .int (xI v), .int (xI i), .int (xI 126)] [] (hh f a g) Q := by
  induction n with
  | zero =>
    intro a i hi i0 hk
    have h8 : i = 126 := by omega
    subst h8
    rw [r163_5]
    have e : (fun (c : Nat) (j : Int) => if c = 15 ∧ 126 ≤ j ∧ j < 126 then v else a c j) = a := by
      funext c j; rw [if_neg (by omega)]
    rw [e] at hk
    simp (config := {contextual := true, maxSteps := 1000000}) (disch := omega) only [r163_0, r163_1, r163_2, r163_3, r163_3_1, r163_3_2, r163_4, r163_6, r163_7_T, r163_7_F, r163_7, r163_10, r163_11, r163_12, r163_13, r163_13_1, r163_13_2, r163_14, r163_17, r163_20, xAf_none, xAf_some, xu_app, Nat.reduceAdd, Nat.reduceSub, Nat.reduceEqDiff, Nat.reduceMul, reduceIte, and_self, and_true, true_and, and_false, false_and, true_implies, false_implies, implies_true, not_true_eq_false, not_false_eq_true, Int.reduceToNat, Int.reducePow, Int.reduceNeg, Int.reduceLT, Int.reduceLE, Int.reduceAdd, Int.reduceSub, Int.reduceMul, Int.reduceDiv, Int.reduceMod, Int.reduceEq, xA_1, xA_15, xA_255, xA_511, xA_65535, xA_32768]
    exact hk
  | succ n ih =>
    intro a i hi i0 hk
    rw [r163_5]
    simp (config := {contextual := true, maxSteps := 1000000}) (disch := omega) only [r163_0, r163_1, r163_2, r163_3, r163_3_1, r163_3_2, r163_4, r163_6, r163_7_T, r163_7_F, r163_7, r163_10, r163_11, r163_12, r163_13, r163_13_1, r163_13_2, r163_14, r163_17, r163_20, xAf_none, xAf_some, xu_app, Nat.reduceAdd, Nat.reduceSub, Nat.reduceEqDiff, Nat.reduceMul, reduceIte, and_self, and_true, true_and, and_false, false_and, true_implies, false_implies, implies_true, not_true_eq_false, not_false_eq_true, Int.reduceToNat, Int.reducePow, Int.reduceNeg, Int.reduceLT, Int.reduceLE, Int.reduceAdd, Int.reduceSub, Int.reduceMul, Int.reduceDiv, Int.reduceMod, Int.reduceEq, xA_1, xA_15, xA_255, xA_511, xA_65535, xA_32768]
    refine ih _ (i + 1) (by omega) (by omega) ?_
    have e : (fun (c : Nat) (j : Int) => if c = 15 ∧ i + 1 ≤ j ∧ j < 126 then v else xw a 15 i v c j) = (fun (c : Nat) (j : Int) => if c = 15 ∧ i ≤ j ∧ j < 126 then v else a c j) := by
      funext c j
      rw [xw_app]
      by_cases h1 : c = 15 ∧ i ≤ j ∧ j < 126
      · rw [if_pos h1]
        by_cases h2 : c = 15 ∧ i + 1 ≤ j ∧ j < 126
        · rw [if_pos h2]
        · rw [if_neg h2, if_pos (by omega)]
      · rw [if_neg h1, if_neg (by omega), if_neg (by omega)]
    rw [e]; exact hk
theorem s_fill15 : xTC d 163 [.ref 15, .int (xI v)] (hh f a g) Q ↔ Q (hh f (afl a 15 126 v) g, .returned none) := by
  refine xTC_iff ?_
  rw [e163]
  simp (config := {contextual := true, maxSteps := 1000000}) (disch := omega) only [r163_0, r163_1, r163_2, r163_3, r163_3_1, r163_3_2, r163_4, r163_6, r163_7_T, r163_7_F, r163_7, r163_10, r163_11, r163_12, r163_13, r163_13_1, r163_13_2, r163_14, r163_17, r163_20, xAf_none, xAf_some, xu_app, Nat.reduceAdd, Nat.reduceSub, Nat.reduceEqDiff, Nat.reduceMul, reduceIte, and_self, and_true, true_and, and_false, false_and, true_implies, false_implies, implies_true, not_true_eq_false, not_false_eq_true, Int.reduceToNat, Int.reducePow, Int.reduceNeg, Int.reduceLT, Int.reduceLE, Int.reduceAdd, Int.reduceSub, Int.reduceMul, Int.reduceDiv, Int.reduceMod, Int.reduceEq, xA_1, xA_15, xA_255, xA_511, xA_65535, xA_32768]
  exact l_fill15 126 a 0 (by omega) (by omega) rfl
theorem l_fill16 (n : Nat) : ∀ (a : Nat → Int → Int) (i : Int), i + n = 126 → 0 ≤ i → Q (hh f (fun c j => if c = 16 ∧ i ≤ j ∧ j < 126 then v else a c j) g, .returned none) → xT d 163 5 [.ref 16, .int (xI v), .int (xI i), .int (xI 126)] [] (hh f a g) Q := by
  induction n with
  | zero =>
    intro a i hi i0 hk
    have h8 : i = 126 := by omega
    subst h8
    rw [r163_5]
    have e : (fun (c : Nat) (j : Int) => if c = 16 ∧ 126 ≤ j ∧ j < 126 then v else a c j) = a := by
      funext c j; rw [if_neg (by omega)]
    rw [e] at hk
    simp (config := {contextual := true, maxSteps := 1000000}) (disch := omega) only [r163_0, r163_1, r163_2, r163_3, r163_3_1, r163_3_2, r163_4, r163_6, r163_7_T, r163_7_F, r163_7, r163_10, r163_11, r163_12, r163_13, r163_13_1, r163_13_2, r163_14, r163_17, r163_20, xAf_none, xAf_some, xu_app, Nat.reduceAdd, Nat.reduceSub, Nat.reduceEqDiff, Nat.reduceMul, reduceIte, and_self, and_true, true_and, and_false, false_and, true_implies, false_implies, implies_true, not_true_eq_false, not_false_eq_true, Int.reduceToNat, Int.reducePow, Int.reduceNeg, Int.reduceLT, Int.reduceLE, Int.reduceAdd, Int.reduceSub, Int.reduceMul, Int.reduceDiv, Int.reduceMod, Int.reduceEq, xA_1, xA_15, xA_255, xA_511, xA_65535, xA_32768]
    exact hk
  | succ n ih =>
    intro a i hi i0 hk
    rw [r163_5]
    simp (config := {contextual := true, maxSteps := 1000000}) (disch := omega) only [r163_0, r163_1, r163_2, r163_3, r163_3_1, r163_3_2, r163_4, r163_6, r163_7_T, r163_7_F, r163_7, r163_10, r163_11, r163_12, r163_13, r163_13_1, r163_13_2, r163_14, r163_17, r163_20, xAf_none, xAf_some, xu_app, Nat.reduceAdd, Nat.reduceSub, Nat.reduceEqDiff, Nat.reduceMul, reduceIte, and_self, and_true, true_and, and_false, false_and, true_implies, false_implies, implies_true, not_true_eq_false, not_false_eq_true, Int.reduceToNat, Int.reducePow, Int.reduceNeg, Int.reduceLT, Int.reduceLE, Int.reduceAdd, Int.reduceSub, Int.reduceMul, Int.reduceDiv, Int.reduceMod, Int.reduceEq, xA_1, xA_15, xA_255, xA_511, xA_65535, xA_32768]
    refine ih _ (i + 1) (by omega) (by omega) ?_
    have e : (fun (c : Nat) (j : Int) => if c = 16 ∧ i + 1 ≤ j ∧ j < 126 then v else xw a 16 i v c j) = (fun (c : Nat) (j : Int) => if c = 16 ∧ i ≤ j ∧ j < 126 then v else a c j) := by
      funext c j
      rw [xw_app]
      by_cases h1 : c = 16 ∧ i ≤ j ∧ j < 126
      · rw [if_pos h1]
        by_cases h2 : c = 16 ∧ i + 1 ≤ j ∧ j < 126
        · rw [if_pos h2]
        · rw [if_neg h2, if_pos (by omega)]
      · rw [if_neg h1, if_neg (by omega), if_neg (by omega)]
    rw [e]; exact hk
theorem s_fill16 : xTC d 163 [.ref 16, .int (xI v)] (hh f a g) Q ↔ Q (hh f (afl a 16 126 v) g, .returned none) := by
  refine xTC_iff ?_
  rw [e163]
  simp (config := {contextual := true, maxSteps := 1000000}) (disch := omega) only [r163_0, r163_1, r163_2, r163_3, r163_3_1, r163_3_2, r163_4, r163_6, r163_7_T, r163_7_F, r163_7, r163_10, r163_11, r163_12, r163_13, r163_13_1, r163_13_2, r163_14, r163_17, r163_20, xAf_none, xAf_some, xu_app, Nat.reduceAdd, Nat.reduceSub, Nat.reduceEqDiff, Nat.reduceMul, reduceIte, and_self, and_true, true_and, and_false, false_and, true_implies, false_implies, implies_true, not_true_eq_false, not_false_eq_true, Int.reduceToNat, Int.reducePow, Int.reduceNeg, Int.reduceLT, Int.reduceLE, Int.reduceAdd, Int.reduceSub, Int.reduceMul, Int.reduceDiv, Int.reduceMod, Int.reduceEq, xA_1, xA_15, xA_255, xA_511, xA_65535, xA_32768]
  exact l_fill16 126 a 0 (by omega) (by omega) rfl
theorem l_fill18 (n : Nat) : ∀ (a : Nat → Int → Int) (i : Int), i + n = 2394 → 0 ≤ i → Q (hh f (fun c j => if c = 18 ∧ i ≤ j ∧ j < 2394 then v else a c j) g, .returned none) → xT d 163 5 [.ref 18, .int (xI v), .int (xI i), .int (xI 2394)] [] (hh f a g) Q := by
  induction n with
  | zero =>
    intro a i hi i0 hk
    have h8 : i = 2394 := by omega
    subst h8
    rw [r163_5]
    have e : (fun (c : Nat) (j : Int) => if c = 18 ∧ 2394 ≤ j ∧ j < 2394 then v else a c j) = a := by
      funext c j; rw [if_neg (by omega)]
    rw [e] at hk
    simp (config := {contextual := true, maxSteps := 1000000}) (disch := omega) only [r163_0, r163_1, r163_2, r163_3, r163_3_1, r163_3_2, r163_4, r163_6, r163_7_T, r163_7_F, r163_7, r163_10, r163_11, r163_12, r163_13, r163_13_1, r163_13_2, r163_14, r163_17, r163_20, xAf_none, xAf_some, xu_app, Nat.reduceAdd, Nat.reduceSub, Nat.reduceEqDiff, Nat.reduceMul, reduceIte, and_self, and_true, true_and, and_false, false_and, true_implies, false_implies, implies_true, not_true_eq_false, not_false_eq_true, Int.reduceToNat, Int.reducePow, Int.reduceNeg, Int.reduceLT, Int.reduceLE, Int.reduceAdd, Int.reduceSub, Int.reduceMul, Int.reduceDiv, Int.reduceMod, Int.reduceEq, xA_1, xA_15, xA_255, xA_511, xA_65535, xA_32768]
    exact hk
  | succ n ih =>
    intro a i hi i0 hk
    rw [r163_5]
    simp (config := {contextual := true, maxSteps := 1000000}) (disch := omega) only [r163_0, r163_1, r163_2, r163_3, r163_3_1, r163_3_2, r163_4, r163_6, r163_7_T, r163_7_F, r163_7, r163_10, r163_11, r163_12, r163_13, r163_13_1, r163_13_2, r163_14, r163_17, r163_20, xAf_none, xAf_some, xu_app, Nat.reduceAdd, Nat.reduceSub, Nat.reduceEqDiff, Nat.reduceMul, reduceIte, and_self, and_true, true_and, and_false, false_and, true_implies, false_implies, implies_true, not_true_eq_false, not_false_eq_true, Int.reduceToNat, Int.reducePow, Int.reduceNeg, Int.reduceLT, Int.reduceLE, Int.reduceAdd, Int.reduceSub, Int.reduceMul, Int.reduceDiv, Int.reduceMod, Int.reduceEq, xA_1, xA_15, xA_255, xA_511, xA_65535, xA_32768]
    refine ih _ (i + 1) (by omega) (by omega) ?_
    have e : (fun (c : Nat) (j : Int) => if c = 18 ∧ i + 1 ≤ j ∧ j < 2394 then v else xw a 18 i v c j) = (fun (c : Nat) (j : Int) => if c = 18 ∧ i ≤ j ∧ j < 2394 then v else a c j) := by
      funext c j
      rw [xw_app]
      by_cases h1 : c = 18 ∧ i ≤ j ∧ j < 2394
      · rw [if_pos h1]
        by_cases h2 : c = 18 ∧ i + 1 ≤ j ∧ j < 2394
        · rw [if_pos h2]
        · rw [if_neg h2, if_pos (by omega)]
      · rw [if_neg h1, if_neg (by omega), if_neg (by omega)]
    rw [e]; exact hk
theorem s_fill18 : xTC d 163 [.ref 18, .int (xI v)] (hh f a g) Q ↔ Q (hh f (afl a 18 2394 v) g, .returned none) := by
  refine xTC_iff ?_
  rw [e163]
  simp (config := {contextual := true, maxSteps := 1000000}) (disch := omega) only [r163_0, r163_1, r163_2, r163_3, r163_3_1, r163_3_2, r163_4, r163_6, r163_7_T, r163_7_F, r163_7, r163_10, r163_11, r163_12, r163_13, r163_13_1, r163_13_2, r163_14, r163_17, r163_20, xAf_none, xAf_some, xu_app, Nat.reduceAdd, Nat.reduceSub, Nat.reduceEqDiff, Nat.reduceMul, reduceIte, and_self, and_true, true_and, and_false, false_and, true_implies, false_implies, implies_true, not_true_eq_false, not_false_eq_true, Int.reduceToNat, Int.reducePow, Int.reduceNeg, Int.reduceLT, Int.reduceLE, Int.reduceAdd, Int.reduceSub, Int.reduceMul, Int.reduceDiv, Int.reduceMod, Int.reduceEq, xA_1, xA_15, xA_255, xA_511, xA_65535, xA_32768]
  exact l_fill18 2394 a 0 (by omega) (by omega) rfl
def bInit : bS := (fun _ => 4, fun _ => 1, 0, 0, 0)
def rInit : rS := (fun _ => 128, 65280, 0, 2)
theorem bInit_I : bI bInit := ⟨fun j => by unfold bInit; dsimp only; omega, by decide, by decide, by decide, by decide, fun _ => rfl⟩
theorem rInit_I : rI rInit := ⟨by decide, by decide, fun j => by unfold rInit; dsimp only; omega, by decide, by decide⟩
theorem p_bw0 (h : xB f a A) (hd : 3 ≤ d) (hk : ∀ f' a', xW0 f' a' A bInit → xFc f a f' a' → Q (hh f' a' g, .returned none)) : xTC d 57 [.ref 14] (hh f a g) Q := by
  rw [e57]
  simp (config := {contextual := true, maxSteps := 1000000}) (disch := omega) only [r57_0, r57_1, r57_2, r57_2_1, r57_5, r57_6, r57_6_1, r57_9, r59_0, r59_1, r59_4, r59_5, r59_8, r59_9, r59_12, r59_13, r59_16, r59_17, r59_18, r59_21, e59, s_fill15, s_fill16, xAf_none, xAf_some, xu_app, Nat.reduceAdd, Nat.reduceSub, Nat.reduceEqDiff, Nat.reduceMul, reduceIte, and_self, and_true, true_and, and_false, false_and, true_implies, false_implies, implies_true, not_true_eq_false, not_false_eq_true, Int.reduceToNat, Int.reducePow, Int.reduceNeg, Int.reduceLT, Int.reduceLE, Int.reduceAdd, Int.reduceSub, Int.reduceMul, Int.reduceDiv, Int.reduceMod, Int.reduceEq, xA_1, xA_15, xA_255, xA_511, xA_65535, xA_32768]
  refine hk _ _ ⟨?_, rfl, rfl, fun z => absurd rfl z, fun j j0 j1 => ?_, bInit_I⟩ ⟨fun i i1 i2 i3 i4 => ?_, fun k hk => rfl, fun i i1 i2 i3 i4 => ?_⟩
  · show xB _ _ (A ++ []); rw [List.append_nil]; exact h.of rfl rfl rfl
  · unfold afl bInit; dsimp only
    rw [if_neg (by omega), if_pos ⟨rfl, j0, j1⟩, if_pos ⟨rfl, j0, j1⟩]; exact ⟨rfl, rfl⟩
  · rw [xu_ne _ i3, xu_ne _ i3]
  · funext j; unfold afl; rw [if_neg (by omega), if_neg (by omega)]
set_option maxRecDepth 100000 in
theorem p_bw1 (h : xB f a A) (hd : 3 ≤ d) (hk : ∀ f' a', xW1 f' a' A rInit → xFc f a f' a' → Q (hh f' a' g, .returned none)) : xTC d 57 [.ref 17] (hh f a g) Q := by
  rw [e57]
  have hl := h.len
  simp (config := {contextual := true, maxSteps := 1000000}) (disch := omega) only [r57_0, r57_1, r57_2, r57_2_1, r57_5, r57_6, r57_6_1, r57_9, r65_0, r65_1, r65_4, r65_7, r65_10, r65_11, r65_13, r65_16, r65_17, r65_18, r65_21, r65_24, r65_27, r65_28, r65_31_T, r65_31_F, r65_31, r65_34, r65_35, r65_36, r65_39, r65_42, r65_45, r65_46, r65_49, r65_50, r65_51, r65_54, r65_55, r65_58, r65_61, r65_62, r65_65, r65_68, r65_69, r65_72, r65_73, r65_76, r65_77, r65_80, r65_81, r65_84, e65, s_fill18, xAf_none, xAf_some, xu_app, Nat.reduceAdd, Nat.reduceSub, Nat.reduceEqDiff, Nat.reduceMul, reduceIte, and_self, and_true, true_and, and_false, false_and, true_implies, false_implies, implies_true, not_true_eq_false, not_false_eq_true, Int.reduceToNat, Int.reducePow, Int.reduceNeg, Int.reduceLT, Int.reduceLE, Int.reduceAdd, Int.reduceSub, Int.reduceMul, Int.reduceDiv, Int.reduceMod, Int.reduceEq, xA_1, xA_15, xA_255, xA_511, xA_65535, xA_32768]
  refine p_push (h.of (f' := xu (xu (xu f 17 2 0) 17 4 65280) 17 5 (f 10 0)) (a' := afl a 18 2394 128) rfl rfl rfl) (v := 0) (by omega) (by omega) fun f1 a1 B1 F1 => ?_
  simp (config := {contextual := true, maxSteps := 1000000}) (disch := omega) only [r57_0, r57_1, r57_2, r57_2_1, r57_5, r57_6, r57_6_1, r57_9, r65_0, r65_1, r65_4, r65_7, r65_10, r65_11, r65_13, r65_16, r65_17, r65_18, r65_21, r65_24, r65_27, r65_28, r65_31_T, r65_31_F, r65_31, r65_34, r65_35, r65_36, r65_39, r65_42, r65_45, r65_46, r65_49, r65_50, r65_51, r65_54, r65_55, r65_58, r65_61, r65_62, r65_65, r65_68, r65_69, r65_72, r65_73, r65_76, r65_77, r65_80, r65_81, r65_84, e65, xAf_none, xAf_some, xu_app, Nat.reduceAdd, Nat.reduceSub, Nat.reduceEqDiff, Nat.reduceMul, reduceIte, and_self, and_true, true_and, and_false, false_and, true_implies, false_implies, implies_true, not_true_eq_false, not_false_eq_true, Int.reduceToNat, Int.reducePow, Int.reduceNeg, Int.reduceLT, Int.reduceLE, Int.reduceAdd, Int.reduceSub, Int.reduceMul, Int.reduceDiv, Int.reduceMod, Int.reduceEq, xA_1, xA_15, xA_255, xA_511, xA_65535, xA_32768]
  refine p_push B1 (v := 0) (by omega) (by omega) fun f2 a2 B2 F2 => ?_
  simp (config := {contextual := true, maxSteps := 1000000}) (disch := omega) only [r57_0, r57_1, r57_2, r57_2_1, r57_5, r57_6, r57_6_1, r57_9, r65_0, r65_1, r65_4, r65_7, r65_10, r65_11, r65_13, r65_16, r65_17, r65_18, r65_21, r65_24, r65_27, r65_28, r65_31_T, r65_31_F, r65_31, r65_34, r65_35, r65_36, r65_39, r65_42, r65_45, r65_46, r65_49, r65_50, r65_51, r65_54, r65_55, r65_58, r65_61, r65_62, r65_65, r65_68, r65_69, r65_72, r65_73, r65_76, r65_77, r65_80, r65_81, r65_84, e65, xAf_none, xAf_some, xu_app, Nat.reduceAdd, Nat.reduceSub, Nat.reduceEqDiff, Nat.reduceMul, reduceIte, and_self, and_true, true_and, and_false, false_and, true_implies, false_implies, implies_true, not_true_eq_false, not_false_eq_true, Int.reduceToNat, Int.reducePow, Int.reduceNeg, Int.reduceLT, Int.reduceLE, Int.reduceAdd, Int.reduceSub, Int.reduceMul, Int.reduceDiv, Int.reduceMod, Int.reduceEq, xA_1, xA_15, xA_255, xA_511, xA_65535, xA_32768]
  have F := F1.trans F2
  refine hk _ _ ⟨?_, ?_, ?_, ?_, fun j j0 j1 => ?_, rInit_I⟩ (xFc.trans (f' := xu (xu (xu f 17 2 0) 17 4 65280) 17 5 (f 10 0)) (a' := afl a 18 2394 128) ⟨fun i i1 i2 i3 i4 => ?_, fun k hk => rfl, fun i i1 i2 i3 i4 => ?_⟩ F.c)
  · rw [List.append_assoc] at B2; exact B2
  · rw [F.1 17 (by decide)]; rfl
  · rw [F.1 17 (by decide)]; rfl
  · rw [F.1 17 (by decide)]; exact h.1
  · rw [F.2.2 18 (by decide)]; exact if_pos ⟨rfl, j0, j1⟩
  · rw [xu_ne _ i4, xu_ne _ i4, xu_ne _ i4]
  · funext j; unfold afl; rw [if_neg (by omega)]
end S46
