/-! THE CLASS WRITES: values of a frame, the track, the film as a list of bytes -/
/-- the values of a frame, out of its samples -/
def vS (S : Int → Int) (fr pn : Int) (j : Int) : Int :=
  if pn = 1 then S (108 * fr + j) else if j < 36 then S (108 * fr + 36 + j) + ((S (108 * fr + 72 + j) - S (108 * fr + 36 + j)) + (S (108 * fr + j) - S (108 * fr + 36 + j))) / 4 else if j < 72 then S (108 * fr + 36 + j) - S (108 * fr + j) else S (108 * fr + (j - 72)) - S (108 * fr + (j - 36))
section S57
variable {d : Nat} {Q : xm_H × Outcome → Prop} {g : xG} {f : Nat → Nat → Int} {a : Nat → Int → Int} {fr pn : Int}
theorem l_load (hpn : f 2 2 = pn) (hp : pn = 1 ∨ pn = 3) (f0 : 0 ≤ fr) (f1 : fr < 3) {S : Int → Int} (hS : ∀ j, -256 ≤ S j ∧ S j ≤ 511) (n : Nat) : ∀ (a : Nat → Int → Int) (i : Int) (l5 l6 l7 l8 : Value), i + n = 36 → 0 ≤ i → a 4 = S → (∀ j, -1000 ≤ a 13 j ∧ a 13 j ≤ 1000) →
    (∀ a', (∀ c, c ≠ 13 → a' c = a c) → (∀ j, -1000 ≤ a' 13 j ∧ a' 13 j ≤ 1000) → (∀ j, i ≤ j → j < 36 → a' 13 j = vS S fr pn j ∧ (pn = 3 → a' 13 (36 + j) = vS S fr pn (36 + j) ∧ a' 13 (72 + j) = vS S fr pn (72 + j))) → (∀ j, 0 ≤ j → j < i → a' 13 j = a 13 j ∧ a' 13 (36 + j) = a 13 (36 + j) ∧ a' 13 (72 + j) = a 13 (72 + j)) → Q (hh f a' g, .returned none)) →
    xT d 71 8 [.ref 12, .ref 2, .int (xI fr), .int (xI (fr * 108)), .int (xI i), l5, l6, l7, l8] [] (hh f a g) Q := by
  induction n with
  | zero =>
    intro a i l5 l6 l7 l8 hi i0 h4 hb hk
    rw [r71_8]
    simp (config := {contextual := true, maxSteps := 1000000}) (disch := omega) only [r71_0, r71_1, r71_3, r71_4, r71_5, r71_6, r71_10, r71_12_T, r71_12_F, r71_12, r71_15, r71_16, r71_16_1, r71_19, r71_20, r71_22, r71_23, r71_23_1, r71_24, r71_26, r71_27, r71_27_1, r71_30, r71_31_T, r71_31_F, r71_31, r71_34, r71_35, r71_38, r71_40, r71_42, r71_43, r71_46, r71_47, r71_47_1, r71_50, r71_51, r71_53, r71_54, r71_56, r71_57, r71_57_1, r71_58, r71_60, r71_61, r71_61_1, r71_64, r71_65, r71_67, r71_68, r71_70, r71_71, r71_71_1, r71_72, r71_74, r71_75, r71_77, r71_79, r71_81, r71_82, r71_84, r71_85, r71_88, r71_90, r71_92, r71_94, r71_96, r71_97, r71_98, r71_99, r71_100, r71_101, r71_102, r71_105, r71_107, r71_109, r71_110, r71_112, r71_113, r71_114, r71_117, r71_119, r71_121, r71_122, r71_124, r71_125, r71_128, r71_131, xAf_none, xAf_some, xu_app, Nat.reduceAdd, Nat.reduceSub, Nat.reduceEqDiff, Nat.reduceMul, reduceIte, and_self, and_true, true_and, and_false, false_and, true_implies, false_implies, implies_true, not_true_eq_false, not_false_eq_true, Int.reduceToNat, Int.reducePow, Int.reduceNeg, Int.reduceLT, Int.reduceLE, Int.reduceAdd, Int.reduceSub, Int.reduceMul, Int.reduceDiv, Int.reduceMod, Int.reduceEq, xA_1, xA_15, xA_255, xA_511, xA_65535, xA_32768]
    exact hk a (fun _ _ => rfl) hb (fun j h1 h2 => by omega) (fun j _ _ => ⟨rfl, rfl, rfl⟩)
  | succ n ih =>
    intro a i l5 l6 l7 l8 hi i0 h4 hb hk
    have e4 : ∀ j, a 4 j = S j := fun j => by rw [h4]
    have b0 := hS (fr * 108 + i)
    have b1 := hS (fr * 108 + 36 + i)
    have b2 := hS (fr * 108 + 72 + i)
    rw [r71_8]
    rcases hp with rfl | rfl
    · simp (config := {contextual := true, maxSteps := 1000000}) (disch := omega) only [r71_0, r71_1, r71_3, r71_4, r71_5, r71_6, r71_10, r71_12_T, r71_12_F, r71_12, r71_15, r71_16, r71_16_1, r71_19, r71_20, r71_22, r71_23, r71_23_1, r71_24, r71_26, r71_27, r71_27_1, r71_30, r71_31_T, r71_31_F, r71_31, r71_34, r71_35, r71_38, r71_40, r71_42, r71_43, r71_46, r71_47, r71_47_1, r71_50, r71_51, r71_53, r71_54, r71_56, r71_57, r71_57_1, r71_58, r71_60, r71_61, r71_61_1, r71_64, r71_65, r71_67, r71_68, r71_70, r71_71, r71_71_1, r71_72, r71_74, r71_75, r71_77, r71_79, r71_81, r71_82, r71_84, r71_85, r71_88, r71_90, r71_92, r71_94, r71_96, r71_97, r71_98, r71_99, r71_100, r71_101, r71_102, r71_105, r71_107, r71_109, r71_110, r71_112, r71_113, r71_114, r71_117, r71_119, r71_121, r71_122, r71_124, r71_125, r71_128, r71_131, e4, hpn, xAf_none, xAf_some, xu_app, Nat.reduceAdd, Nat.reduceSub, Nat.reduceEqDiff, Nat.reduceMul, reduceIte, and_self, and_true, true_and, and_false, false_and, true_implies, false_implies, implies_true, not_true_eq_false, not_false_eq_true, Int.reduceToNat, Int.reducePow, Int.reduceNeg, Int.reduceLT, Int.reduceLE, Int.reduceAdd, Int.reduceSub, Int.reduceMul, Int.reduceDiv, Int.reduceMod, Int.reduceEq, xA_1, xA_15, xA_255, xA_511, xA_65535, xA_32768]
      refine ih _ (i + 1) _ _ _ _ (by omega) (by omega) ?_ ?_ fun a' k1 k2 k3 k4 => hk a' (fun c hc => (k1 c hc).trans (xw_ne _ hc)) k2 (fun j h1 h2 => ?_) (fun j h1 h2 => ?_)
      · rw [xw_ne _ (by decide)]; exact h4
      · intro j; rw [xw_app]; split
        · omega
        · exact hb j
      · by_cases hj : j = i
        · subst hj
          refine ⟨?_, fun z => by omega⟩
          rw [(k4 j (by omega) (by omega)).1, xw_app, if_pos ⟨rfl, rfl⟩]
          unfold vS; rw [if_pos rfl, Int.mul_comm]
        · exact ⟨(k3 j (by omega) h2).1, fun z => by omega⟩
      · obtain ⟨q1, q2, q3⟩ := k4 j h1 (by omega)
        rw [xw_app, if_neg (by omega)] at q1
        rw [xw_app, if_neg (by omega)] at q2
        rw [xw_app, if_neg (by omega)] at q3
        exact ⟨q1, q2, q3⟩
    · simp (config := {contextual := true, maxSteps := 1000000}) (disch := omega) only [r71_0, r71_1, r71_3, r71_4, r71_5, r71_6, r71_10, r71_12_T, r71_12_F, r71_12, r71_15, r71_16, r71_16_1, r71_19, r71_20, r71_22, r71_23, r71_23_1, r71_24, r71_26, r71_27, r71_27_1, r71_30, r71_31_T, r71_31_F, r71_31, r71_34, r71_35, r71_38, r71_40, r71_42, r71_43, r71_46, r71_47, r71_47_1, r71_50, r71_51, r71_53, r71_54, r71_56, r71_57, r71_57_1, r71_58, r71_60, r71_61, r71_61_1, r71_64, r71_65, r71_67, r71_68, r71_70, r71_71, r71_71_1, r71_72, r71_74, r71_75, r71_77, r71_79, r71_81, r71_82, r71_84, r71_85, r71_88, r71_90, r71_92, r71_94, r71_96, r71_97, r71_98, r71_99, r71_100, r71_101, r71_102, r71_105, r71_107, r71_109, r71_110, r71_112, r71_113, r71_114, r71_117, r71_119, r71_121, r71_122, r71_124, r71_125, r71_128, r71_131, e4, hpn, xAf_none, xAf_some, xu_app, Nat.reduceAdd, Nat.reduceSub, Nat.reduceEqDiff, Nat.reduceMul, reduceIte, and_self, and_true, true_and, and_false, false_and, true_implies, false_implies, implies_true, not_true_eq_false, not_false_eq_true, Int.reduceToNat, Int.reducePow, Int.reduceNeg, Int.reduceLT, Int.reduceLE, Int.reduceAdd, Int.reduceSub, Int.reduceMul, Int.reduceDiv, Int.reduceMod, Int.reduceEq, xA_1, xA_15, xA_255, xA_511, xA_65535, xA_32768]
      refine ih _ (i + 1) _ _ _ _ (by omega) (by omega) ?_ ?_ fun a' k1 k2 k3 k4 => hk a' (fun c hc => (k1 c hc).trans (by rw [xw_ne _ hc, xw_ne _ hc, xw_ne _ hc])) k2 (fun j h1 h2 => ?_) (fun j h1 h2 => ?_)
      · rw [xw_ne _ (by decide), xw_ne _ (by decide), xw_ne _ (by decide)]; exact h4
      · intro j; rw [xw_app]; split
        · omega
        · rw [xw_app]; split
          · omega
          · rw [xw_app]; split
            · omega
            · exact hb j
      · by_cases hj : j = i
        · subst hj
          obtain ⟨q1, q2, q3⟩ := k4 j (by omega) (by omega)
          rw [xw_app, if_neg (by omega), xw_app, if_neg (by omega), xw_app, if_pos ⟨rfl, rfl⟩] at q1
          rw [xw_app, if_neg (by omega), xw_app, if_pos ⟨rfl, rfl⟩] at q2
          rw [xw_app, if_pos ⟨rfl, rfl⟩] at q3
          refine ⟨?_, fun _ => ⟨?_, ?_⟩⟩
          · rw [q1]; unfold vS; rw [if_neg (by omega), if_pos (by omega), Int.mul_comm fr 108]
          · rw [q2]; unfold vS; rw [if_neg (by omega), if_neg (by omega), if_pos (by omega), Int.mul_comm fr 108]
            congr 1
            · congr 1; omega
            · congr 1; omega
          · rw [q3]; unfold vS; rw [if_neg (by omega), if_neg (by omega), if_neg (by omega), Int.mul_comm fr 108]
            congr 1
            · congr 1; omega
            · congr 1; omega
        · exact k3 j (by omega) h2
      · obtain ⟨q1, q2, q3⟩ := k4 j h1 (by omega)
        rw [xw_app, if_neg (by omega), xw_app, if_neg (by omega), xw_app, if_neg (by omega)] at q1
        rw [xw_app, if_neg (by omega), xw_app, if_neg (by omega), xw_app, if_neg (by omega)] at q2
        rw [xw_app, if_neg (by omega), xw_app, if_neg (by omega), xw_app, if_neg (by omega)] at q3
        exact ⟨q1, q2, q3⟩
/-- what of the shape's places is asked -/
theorem agr_of {V V' : Int → Int} {w h y0 y1 : Int} (hw : w ≤ 6) (hy0 : 0 ≤ y0) (hy1 : y1 ≤ 6) (hp : pn = 1 ∨ pn = 3) (hh : ∀ j, 0 ≤ j → j < 36 → V j = V' j ∧ (pn = 3 → V (36 + j) = V' (36 + j) ∧ V (72 + j) = V' (72 + j))) : agr V V' w y0 y1 pn := by
  intro p y x p0 p1 ya yb x0 x1
  have hj := hh (y * 6 + x) (by omega) (by omega)
  rcases hp with rfl | rfl
  · rw [show stPl p y x = y * 6 + x by unfold stPl; omega]; exact hj.1
  · have hj2 := hj.2 rfl
    rcases (by omega : p = 0 ∨ p = 1 ∨ p = 2) with rfl | rfl | rfl
    · rw [show stPl 0 y x = y * 6 + x by unfold stPl; omega]; exact hj.1
    · rw [show stPl 1 y x = 36 + (y * 6 + x) by unfold stPl; omega]; exact hj2.1
    · rw [show stPl 2 y x = 72 + (y * 6 + x) by unfold stPl; omega]; exact hj2.2
theorem p_load (hpn : f 2 2 = pn) (hp : pn = 1 ∨ pn = 3) (f0 : 0 ≤ fr) (f1 : fr < 3) (hS : ∀ j, -256 ≤ a 4 j ∧ a 4 j ≤ 511) (hb : ∀ j, -1000 ≤ a 13 j ∧ a 13 j ≤ 1000) (hk : ∀ a', (∀ c, c ≠ 13 → a' c = a c) → (∀ j, -1000 ≤ a' 13 j ∧ a' 13 j ≤ 1000) → (∀ w y0 y1, w ≤ 6 → 0 ≤ y0 → y1 ≤ 6 → agr (a' 13) (vS (a 4) fr pn) w y0 y1 pn) → Q (hh f a' g, .returned none)) : xTC d 71 [.ref 12, .ref 2, .int (xI fr)] (hh f a g) Q := by
  rw [e71]
  simp (config := {contextual := true, maxSteps := 1000000}) (disch := omega) only [r71_0, r71_1, r71_3, r71_4, r71_5, r71_6, r71_10, r71_12_T, r71_12_F, r71_12, r71_15, r71_16, r71_16_1, r71_19, r71_20, r71_22, r71_23, r71_23_1, r71_24, r71_26, r71_27, r71_27_1, r71_30, r71_31_T, r71_31_F, r71_31, r71_34, r71_35, r71_38, r71_40, r71_42, r71_43, r71_46, r71_47, r71_47_1, r71_50, r71_51, r71_53, r71_54, r71_56, r71_57, r71_57_1, r71_58, r71_60, r71_61, r71_61_1, r71_64, r71_65, r71_67, r71_68, r71_70, r71_71, r71_71_1, r71_72, r71_74, r71_75, r71_77, r71_79, r71_81, r71_82, r71_84, r71_85, r71_88, r71_90, r71_92, r71_94, r71_96, r71_97, r71_98, r71_99, r71_100, r71_101, r71_102, r71_105, r71_107, r71_109, r71_110, r71_112, r71_113, r71_114, r71_117, r71_119, r71_121, r71_122, r71_124, r71_125, r71_128, r71_131, xAf_none, xAf_some, xu_app, Nat.reduceAdd, Nat.reduceSub, Nat.reduceEqDiff, Nat.reduceMul, reduceIte, and_self, and_true, true_and, and_false, false_and, true_implies, false_implies, implies_true, not_true_eq_false, not_false_eq_true, Int.reduceToNat, Int.reducePow, Int.reduceNeg, Int.reduceLT, Int.reduceLE, Int.reduceAdd, Int.reduceSub, Int.reduceMul, Int.reduceDiv, Int.reduceMod, Int.reduceEq, xA_1, xA_15, xA_255, xA_511, xA_65535, xA_32768]
  refine l_load hpn hp f0 f1 hS 36 a 0 _ _ _ _ (by omega) (by omega) rfl hb fun a' k1 k2 k3 _ => hk a' k1 k2 fun w y0 y1 hw hy0 hy1 => agr_of (h := 0) hw hy0 hy1 hp fun j j0 j1 => k3 j j0 j1
end S57
