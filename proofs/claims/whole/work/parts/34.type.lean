/-! frame of the model, type of both -/
theorem xu_xu (f : Nat → Nat → Int) (i k : Nat) (v w : Int) : xu (xu f i k v) i k w = xu f i k w := by
  funext i' k'; unfold xu; split <;> rfl
theorem xu_same (f : Nat → Nat → Int) (i k : Nat) : xu f i k (f i k) = f := by
  funext i' k'; unfold xu; split
  · rename_i h; rw [h.1, h.2]
  · rfl
section S34
variable {d : Nat} {Q : xm_H × Outcome → Prop} {f : Nat → Nat → Int} {a : Nat → Int → Int} {g : xG} {h : xm_H} {k v x y z w p q t : Int} {vl : Int64}
theorem l_mframe (l0 : 0 ≤ f 21 4) (l1 : f 21 4 < 3) (n : Nat) : ∀ (a : Nat → Int → Int) (i : Int), i = 108 - n → 0 ≤ i → Q (hh (xu f 21 4 (f 21 4 + 1)) (fun (c : Nat) (j : Int) => if c = 23 ∧ 108 * f 21 4 + i ≤ j ∧ j < 108 * f 21 4 + 108 then 0 else a c j) g, .returned (some (.int (xI (f 21 4))))) → xT d 151 74 [.ref 21, .int (xI x), .int (xI i)] [] (hh f a g) Q := by
  induction n with
  | zero =>
    intro a i hi i0 hk
    have h8 : i = 108 := by omega
    subst h8
    rw [r151_74]
    have e : (fun (c : Nat) (j : Int) => if c = 23 ∧ 108 * f 21 4 + 108 ≤ j ∧ j < 108 * f 21 4 + 108 then 0 else a c j) = a := by
      funext c j; rw [if_neg (by omega)]
    rw [e] at hk
    have e1 : f 21 4 + 1 - 1 = f 21 4 := by omega
    simp (config := {contextual := true, maxSteps := 1000000}) (disch := omega) only [r151_0, r151_1, r151_2, r151_3, r151_5, r151_8, r151_11, r151_12, r151_15, r151_18, r151_19, r151_20, r151_23, r151_24, r151_27, r151_28, r151_29, r151_30, r151_33, r151_34, r151_37, r151_38, r151_41, r151_42, r151_45, r151_46, r151_49, r151_50, r151_53, r151_54, r151_57, r151_60, r151_61, r151_62, r151_63, r151_66, r151_67, r151_70, r151_71, r151_72, r151_73, r151_75, r151_77, r151_80, r151_81, r151_84, r151_86, r151_87, r151_90, r151_91, r151_92, r151_93, r151_94, r151_95, r151_98, r151_101, r151_102, r151_103, r151_106, r151_107, r151_108, r151_111, r151_112, r151_115, r151_116, r151_117, e1, xAf_none, xAf_some, xu_app, Nat.reduceAdd, Nat.reduceSub, Nat.reduceEqDiff, Nat.reduceMul, reduceIte, and_self, and_true, true_and, and_false, false_and, true_implies, false_implies, implies_true, not_true_eq_false, not_false_eq_true, Int.reduceToNat, Int.reducePow, Int.reduceNeg, Int.reduceLT, Int.reduceLE, Int.reduceAdd, Int.reduceSub, Int.reduceMul, Int.reduceDiv, Int.reduceMod, Int.reduceEq, xA_1, xA_15, xA_255, xA_511, xA_65535, xA_32768]
    exact hk
  | succ n ih =>
    intro a i hi i0 hk
    rw [r151_74]
    have hc : i < 108 := by omega
    simp (config := {contextual := true, maxSteps := 1000000}) (disch := omega) only [r151_0, r151_1, r151_2, r151_3, r151_5, r151_8, r151_11, r151_12, r151_15, r151_18, r151_19, r151_20, r151_23, r151_24, r151_27, r151_28, r151_29, r151_30, r151_33, r151_34, r151_37, r151_38, r151_41, r151_42, r151_45, r151_46, r151_49, r151_50, r151_53, r151_54, r151_57, r151_60, r151_61, r151_62, r151_63, r151_66, r151_67, r151_70, r151_71, r151_72, r151_73, r151_75, r151_77, r151_80, r151_81, r151_84, r151_86, r151_87, r151_90, r151_91, r151_92, r151_93, r151_94, r151_95, r151_98, r151_101, r151_102, r151_103, r151_106, r151_107, r151_108, r151_111, r151_112, r151_115, r151_116, r151_117, hc, xAf_none, xAf_some, xu_app, Nat.reduceAdd, Nat.reduceSub, Nat.reduceEqDiff, Nat.reduceMul, reduceIte, and_self, and_true, true_and, and_false, false_and, true_implies, false_implies, implies_true, not_true_eq_false, not_false_eq_true, Int.reduceToNat, Int.reducePow, Int.reduceNeg, Int.reduceLT, Int.reduceLE, Int.reduceAdd, Int.reduceSub, Int.reduceMul, Int.reduceDiv, Int.reduceMod, Int.reduceEq, xA_1, xA_15, xA_255, xA_511, xA_65535, xA_32768]
    refine ih _ (i + 1) (by omega) (by omega) ?_
    have e : (fun (c : Nat) (j : Int) => if c = 23 ∧ 108 * f 21 4 + (i + 1) ≤ j ∧ j < 108 * f 21 4 + 108 then 0 else xw a 23 (108 * f 21 4 + i) 0 c j) = (fun (c : Nat) (j : Int) => if c = 23 ∧ 108 * f 21 4 + i ≤ j ∧ j < 108 * f 21 4 + 108 then 0 else a c j) := by
      funext c j
      rw [xw_app]
      by_cases h1 : c = 23 ∧ 108 * f 21 4 + i ≤ j ∧ j < 108 * f 21 4 + 108
      · rw [if_pos h1]
        by_cases h2 : c = 23 ∧ 108 * f 21 4 + (i + 1) ≤ j ∧ j < 108 * f 21 4 + 108
        · rw [if_pos h2]
        · rw [if_neg h2, if_pos (by omega)]
      · rw [if_neg h1, if_neg (by omega), if_neg (by omega)]
    rw [e]; exact hk
theorem M_frame0 (x0 : -2147483648 ≤ x) (x1 : x ≤ 2147483647) (hd : 3 ≤ d) (f3 : 0 ≤ f 21 4 ∧ f 21 4 ≤ 3) (ht : ¬ f 21 4 = 0 → 0 ≤ a 22 (f 21 4 - 1) ∧ a 22 (f 21 4 - 1) ≤ 65535) (hok : (0 ≤ x ∧ x ≤ 65535 ∧ (f 21 4 = 0 ∨ a 22 (f 21 4 - 1) < x)) ∧ f 21 4 < 3) : xTC d 151 [.ref 21, .int (xI x)] (hh f a g) Q ↔ Q (hh (xu (xu f 21 0 0) 21 4 (f 21 4 + 1)) (fun (c : Nat) (j : Int) => if c = 23 ∧ 108 * f 21 4 + 0 ≤ j ∧ j < 108 * f 21 4 + 108 then 0 else (xw a 22 (f 21 4) x) c j) g, .returned (some (.int (xI (f 21 4))))) := by
  refine xTC_iff ?_
  rw [e151]
  have h3 : ¬ f 21 4 = 3 := by omega
  have hl : ∀ g', xT d 151 74 [.ref 21, .int (xI x), .int (xI 0)] [] (hh (xu f 21 0 0) (xw a 22 (f 21 4) x) g') (fun q => q = (hh (xu (xu f 21 0 0) 21 4 (f 21 4 + 1)) (fun (c : Nat) (j : Int) => if c = 23 ∧ 108 * f 21 4 + 0 ≤ j ∧ j < 108 * f 21 4 + 108 then 0 else (xw a 22 (f 21 4) x) c j) g', .returned (some (.int (xI (f 21 4)))))) := fun g' => by
    have hq := l_mframe (d := d) (x := x) (f := xu f 21 0 0) (g := g') (Q := fun q => q = (hh (xu (xu f 21 0 0) 21 4 (f 21 4 + 1)) (fun (c : Nat) (j : Int) => if c = 23 ∧ 108 * f 21 4 + 0 ≤ j ∧ j < 108 * f 21 4 + 108 then 0 else (xw a 22 (f 21 4) x) c j) g', .returned (some (.int (xI (f 21 4)))))) (by simp [xu_app]; omega) (by simp [xu_app]; omega) 108 (xw a 22 (f 21 4) x) 0 (by omega) (by omega)
    exact hq rfl
  by_cases h0 : f 21 4 = 0
  · have hb : 0 ≤ x ∧ x ≤ 65535 := ⟨hok.1.1, hok.1.2.1⟩
    have h0' : ¬ 0 < f 21 4 := by omega
    simp (config := {contextual := true, maxSteps := 1000000}) (disch := omega) only [r151_0, r151_1, r151_2, r151_3, r151_5, r151_8, r151_11, r151_12, r151_15, r151_18, r151_19, r151_20, r151_23, r151_24, r151_27, r151_28, r151_29, r151_30, r151_33, r151_34, r151_37, r151_38, r151_41, r151_42, r151_45, r151_46, r151_49, r151_50, r151_53, r151_54, r151_57, r151_60, r151_61, r151_62, r151_63, r151_66, r151_67, r151_70, r151_71, r151_72, r151_73, r151_75, r151_77, r151_80, r151_81, r151_84, r151_86, r151_87, r151_90, r151_91, r151_92, r151_93, r151_94, r151_95, r151_98, r151_101, r151_102, r151_103, r151_106, r151_107, r151_108, r151_111, r151_112, r151_115, r151_116, r151_117, s_between, hb, h0', h3, xAf_none, xAf_some, xu_app, Nat.reduceAdd, Nat.reduceSub, Nat.reduceEqDiff, Nat.reduceMul, reduceIte, and_self, and_true, true_and, and_false, false_and, true_implies, false_implies, implies_true, not_true_eq_false, not_false_eq_true, Int.reduceToNat, Int.reducePow, Int.reduceNeg, Int.reduceLT, Int.reduceLE, Int.reduceAdd, Int.reduceSub, Int.reduceMul, Int.reduceDiv, Int.reduceMod, Int.reduceEq, xA_1, xA_15, xA_255, xA_511, xA_65535, xA_32768]
    exact hl g
  · have hb : 0 ≤ x ∧ x ≤ 65535 := ⟨hok.1.1, hok.1.2.1⟩
    have h0' : 0 < f 21 4 := by omega
    have ht' := ht h0
    have hx : a 22 (f 21 4 - 1) < x := by omega
    simp (config := {contextual := true, maxSteps := 1000000}) (disch := omega) only [r151_0, r151_1, r151_2, r151_3, r151_5, r151_8, r151_11, r151_12, r151_15, r151_18, r151_19, r151_20, r151_23, r151_24, r151_27, r151_28, r151_29, r151_30, r151_33, r151_34, r151_37, r151_38, r151_41, r151_42, r151_45, r151_46, r151_49, r151_50, r151_53, r151_54, r151_57, r151_60, r151_61, r151_62, r151_63, r151_66, r151_67, r151_70, r151_71, r151_72, r151_73, r151_75, r151_77, r151_80, r151_81, r151_84, r151_86, r151_87, r151_90, r151_91, r151_92, r151_93, r151_94, r151_95, r151_98, r151_101, r151_102, r151_103, r151_106, r151_107, r151_108, r151_111, r151_112, r151_115, r151_116, r151_117, s_between, hb, h0', hx, h3, xAf_none, xAf_some, xu_app, Nat.reduceAdd, Nat.reduceSub, Nat.reduceEqDiff, Nat.reduceMul, reduceIte, and_self, and_true, true_and, and_false, false_and, true_implies, false_implies, implies_true, not_true_eq_false, not_false_eq_true, Int.reduceToNat, Int.reducePow, Int.reduceNeg, Int.reduceLT, Int.reduceLE, Int.reduceAdd, Int.reduceSub, Int.reduceMul, Int.reduceDiv, Int.reduceMod, Int.reduceEq, xA_1, xA_15, xA_255, xA_511, xA_65535, xA_32768]
    exact hl g
theorem M_frame12 (x0 : -2147483648 ≤ x) (x1 : x ≤ 2147483647) (hd : 3 ≤ d) (f3 : 0 ≤ f 21 4 ∧ f 21 4 ≤ 3) (ht : ¬ f 21 4 = 0 → 0 ≤ a 22 (f 21 4 - 1) ∧ a 22 (f 21 4 - 1) ≤ 65535) (hno : ¬ ((0 ≤ x ∧ x ≤ 65535 ∧ (f 21 4 = 0 ∨ a 22 (f 21 4 - 1) < x)) ∧ f 21 4 < 3)) : xTC d 151 [.ref 21, .int (xI x)] (hh f a g) Q ↔ (¬ (0 ≤ x ∧ x ≤ 65535 ∧ (f 21 4 = 0 ∨ a 22 (f 21 4 - 1) < x)) → Q (hh (xu f 21 0 1) a g, .returned (some (.int (xI (0)))))) ∧ ((0 ≤ x ∧ x ≤ 65535 ∧ (f 21 4 = 0 ∨ a 22 (f 21 4 - 1) < x)) ∧ ¬ f 21 4 < 3 → Q (hh (xu f 21 0 2) a g, .returned (some (.int (xI (0)))))) := by
  rw [e151]
  by_cases h0 : f 21 4 = 0
  · have h0' : ¬ 0 < f 21 4 := by omega
    have hb : ¬ (0 ≤ x ∧ x ≤ 65535) := by omega
    simp (config := {contextual := true, maxSteps := 1000000}) (disch := omega) only [r151_0, r151_1, r151_2, r151_3, r151_5, r151_8, r151_11, r151_12, r151_15, r151_18, r151_19, r151_20, r151_23, r151_24, r151_27, r151_28, r151_29, r151_30, r151_33, r151_34, r151_37, r151_38, r151_41, r151_42, r151_45, r151_46, r151_49, r151_50, r151_53, r151_54, r151_57, r151_60, r151_61, r151_62, r151_63, r151_66, r151_67, r151_70, r151_71, r151_72, r151_73, r151_75, r151_77, r151_80, r151_81, r151_84, r151_86, r151_87, r151_90, r151_91, r151_92, r151_93, r151_94, r151_95, r151_98, r151_101, r151_102, r151_103, r151_106, r151_107, r151_108, r151_111, r151_112, r151_115, r151_116, r151_117, s_between, h0', hb, xAf_none, xAf_some, xu_app, Nat.reduceAdd, Nat.reduceSub, Nat.reduceEqDiff, Nat.reduceMul, reduceIte, and_self, and_true, true_and, and_false, false_and, true_implies, false_implies, implies_true, not_true_eq_false, not_false_eq_true, Int.reduceToNat, Int.reducePow, Int.reduceNeg, Int.reduceLT, Int.reduceLE, Int.reduceAdd, Int.reduceSub, Int.reduceMul, Int.reduceDiv, Int.reduceMod, Int.reduceEq, xA_1, xA_15, xA_255, xA_511, xA_65535, xA_32768]
    grind
  · have h0' : 0 < f 21 4 := by omega
    have ht' := ht h0
    by_cases hb : 0 ≤ x ∧ x ≤ 65535
    · by_cases hx : a 22 (f 21 4 - 1) < x
      · have h3 : f 21 4 = 3 := by omega
        simp (config := {contextual := true, maxSteps := 1000000}) (disch := omega) only [r151_0, r151_1, r151_2, r151_3, r151_5, r151_8, r151_11, r151_12, r151_15, r151_18, r151_19, r151_20, r151_23, r151_24, r151_27, r151_28, r151_29, r151_30, r151_33, r151_34, r151_37, r151_38, r151_41, r151_42, r151_45, r151_46, r151_49, r151_50, r151_53, r151_54, r151_57, r151_60, r151_61, r151_62, r151_63, r151_66, r151_67, r151_70, r151_71, r151_72, r151_73, r151_75, r151_77, r151_80, r151_81, r151_84, r151_86, r151_87, r151_90, r151_91, r151_92, r151_93, r151_94, r151_95, r151_98, r151_101, r151_102, r151_103, r151_106, r151_107, r151_108, r151_111, r151_112, r151_115, r151_116, r151_117, s_between, h0', hb, hx, xAf_none, xAf_some, xu_app, Nat.reduceAdd, Nat.reduceSub, Nat.reduceEqDiff, Nat.reduceMul, reduceIte, and_self, and_true, true_and, and_false, false_and, true_implies, false_implies, implies_true, not_true_eq_false, not_false_eq_true, Int.reduceToNat, Int.reducePow, Int.reduceNeg, Int.reduceLT, Int.reduceLE, Int.reduceAdd, Int.reduceSub, Int.reduceMul, Int.reduceDiv, Int.reduceMod, Int.reduceEq, xA_1, xA_15, xA_255, xA_511, xA_65535, xA_32768]
        grind
      · simp (config := {contextual := true, maxSteps := 1000000}) (disch := omega) only [r151_0, r151_1, r151_2, r151_3, r151_5, r151_8, r151_11, r151_12, r151_15, r151_18, r151_19, r151_20, r151_23, r151_24, r151_27, r151_28, r151_29, r151_30, r151_33, r151_34, r151_37, r151_38, r151_41, r151_42, r151_45, r151_46, r151_49, r151_50, r151_53, r151_54, r151_57, r151_60, r151_61, r151_62, r151_63, r151_66, r151_67, r151_70, r151_71, r151_72, r151_73, r151_75, r151_77, r151_80, r151_81, r151_84, r151_86, r151_87, r151_90, r151_91, r151_92, r151_93, r151_94, r151_95, r151_98, r151_101, r151_102, r151_103, r151_106, r151_107, r151_108, r151_111, r151_112, r151_115, r151_116, r151_117, s_between, h0', hb, hx, xAf_none, xAf_some, xu_app, Nat.reduceAdd, Nat.reduceSub, Nat.reduceEqDiff, Nat.reduceMul, reduceIte, and_self, and_true, true_and, and_false, false_and, true_implies, false_implies, implies_true, not_true_eq_false, not_false_eq_true, Int.reduceToNat, Int.reducePow, Int.reduceNeg, Int.reduceLT, Int.reduceLE, Int.reduceAdd, Int.reduceSub, Int.reduceMul, Int.reduceDiv, Int.reduceMod, Int.reduceEq, xA_1, xA_15, xA_255, xA_511, xA_65535, xA_32768]
        grind
    · simp (config := {contextual := true, maxSteps := 1000000}) (disch := omega) only [r151_0, r151_1, r151_2, r151_3, r151_5, r151_8, r151_11, r151_12, r151_15, r151_18, r151_19, r151_20, r151_23, r151_24, r151_27, r151_28, r151_29, r151_30, r151_33, r151_34, r151_37, r151_38, r151_41, r151_42, r151_45, r151_46, r151_49, r151_50, r151_53, r151_54, r151_57, r151_60, r151_61, r151_62, r151_63, r151_66, r151_67, r151_70, r151_71, r151_72, r151_73, r151_75, r151_77, r151_80, r151_81, r151_84, r151_86, r151_87, r151_90, r151_91, r151_92, r151_93, r151_94, r151_95, r151_98, r151_101, r151_102, r151_103, r151_106, r151_107, r151_108, r151_111, r151_112, r151_115, r151_116, r151_117, s_between, h0', hb, xAf_none, xAf_some, xu_app, Nat.reduceAdd, Nat.reduceSub, Nat.reduceEqDiff, Nat.reduceMul, reduceIte, and_self, and_true, true_and, and_false, false_and, true_implies, false_implies, implies_true, not_true_eq_false, not_false_eq_true, Int.reduceToNat, Int.reducePow, Int.reduceNeg, Int.reduceLT, Int.reduceLE, Int.reduceAdd, Int.reduceSub, Int.reduceMul, Int.reduceDiv, Int.reduceMod, Int.reduceEq, xA_1, xA_15, xA_255, xA_511, xA_65535, xA_32768]
      grind
/-- the bytes of a long -/
def tyB (vl : Int64) (i : Int) : Int := (vl >>> ((xI (8 * i)).toInt64 &&& 63)).toInt32.toInt % 256
theorem tyB_lt (vl : Int64) (i : Int) : 0 ≤ tyB vl i ∧ tyB vl i ≤ 255 := by unfold tyB; omega
theorem tyB_c (wl : Int64) : (wl &&& 255).toInt32 = xI (wl.toInt32.toInt % 256) := by
  rw [Int64.toInt32_and, ← xA_255, ← xI_and, xI_of]; rfl
def tyA (o : Nat) (vl : Int64) : Nat → (Nat → Int → Int) → Int → (Nat → Int → Int)
  | 0, a, _ => a
  | n + 1, a, l => tyA o vl n (xw a o l (tyB vl n)) (l + 1)
theorem r157_60' {ls st : List Value} : xT d 157 60 ls (.long vl :: st) h Q ↔ xT d 157 61 ls (.int (xI vl.toInt32.toInt) :: st) h Q := by
  rw [r157_60, xI_of]
theorem l_type (n : Nat) : ∀ (f : Nat → Nat → Int) (a : Nat → Int → Int), 0 ≤ f 8 0 → f 8 0 + n ≤ 1200 → n ≤ 8 → 1 ≤ d → Q (hh (xu f 8 0 (f 8 0 + n)) (tyA 9 vl n a (f 8 0)) g, .returned (some (.int (xI (f 8 0 + n))))) → xT d 16 51 [.ref 1, .long vl, .null, .int (xI x), .int (xI ((n : Int) - 1))] [] (hh f a g) Q := by
  induction n with
  | zero =>
    intro f a h0 h1 h2 hd hk
    rw [r16_51]
    have e : f 8 0 + ((0 : Nat) : Int) = f 8 0 := by omega
    rw [e, xu_same] at hk
    have hz : ((0 : Nat) : Int) - 1 < 0 := by omega
    simp (config := {contextual := true, maxSteps := 1000000}) (disch := omega) only [r16_0, r16_1, r16_2, r16_5, r16_6, r16_8, r16_11, r16_21, r16_22, r16_25, r16_28, r16_29, r16_30, r16_33, r16_36, r16_46, r16_47, r16_48, r16_49, r16_53, r16_56, r16_57, r16_60, r16_61, r16_63, r16_65, r16_66, r16_67, r16_70, r16_71, r16_72, r16_75, r16_78, r16_81, r16_82, r16_85, r16_88, hz, xAf_none, xAf_some, xu_app, Nat.reduceAdd, Nat.reduceSub, Nat.reduceEqDiff, Nat.reduceMul, reduceIte, and_self, and_true, true_and, and_false, false_and, true_implies, false_implies, implies_true, not_true_eq_false, not_false_eq_true, Int.reduceToNat, Int.reducePow, Int.reduceNeg, Int.reduceLT, Int.reduceLE, Int.reduceAdd, Int.reduceSub, Int.reduceMul, Int.reduceDiv, Int.reduceMod, Int.reduceEq, xA_1, xA_15, xA_255, xA_511, xA_65535, xA_32768]
    exact hk
  | succ n ih =>
    intro f a h0 h1 h2 hd hk
    rw [r16_51]
    have hc : ¬ ((n + 1 : Nat) : Int) - 1 < 0 := by omega
    have hl : f 8 0 < 1200 := by omega
    have hv : 8 * (((n + 1 : Nat) : Int) - 1) = 8 * (n : Int) := by omega
    have hv2 : ((n + 1 : Nat) : Int) - 1 + -1 = (n : Int) - 1 := by omega
    have hi := ih (xu f 8 0 (f 8 0 + 1)) (xw a 9 (f 8 0) (tyB vl n)) (by simp [xu_app]; omega) (by simp [xu_app]; omega) (by omega) hd
    have e1 : xu f 8 0 (f 8 0 + 1) 8 0 = f 8 0 + 1 := rfl
    have e2 : f 8 0 + 1 + (n : Int) = f 8 0 + ((n + 1 : Nat) : Int) := by omega
    rw [e1, xu_xu, e2] at hi
    simp (config := {contextual := true, maxSteps := 1000000}) (disch := omega) only [r16_0, r16_1, r16_2, r16_5, r16_6, r16_8, r16_11, r16_21, r16_22, r16_25, r16_28, r16_29, r16_30, r16_33, r16_36, r16_46, r16_47, r16_48, r16_49, r16_53, r16_56, r16_57, r16_60, r16_61, r16_63, r16_65, r16_66, r16_67, r16_70, r16_71, r16_72, r16_75, r16_78, r16_81, r16_82, r16_85, r16_88, hc, s_push8, hl, tyB_c, hv, hv2, xAf_none, xAf_some, xu_app, Nat.reduceAdd, Nat.reduceSub, Nat.reduceEqDiff, Nat.reduceMul, reduceIte, and_self, and_true, true_and, and_false, false_and, true_implies, false_implies, implies_true, not_true_eq_false, not_false_eq_true, Int.reduceToNat, Int.reducePow, Int.reduceNeg, Int.reduceLT, Int.reduceLE, Int.reduceAdd, Int.reduceSub, Int.reduceMul, Int.reduceDiv, Int.reduceMod, Int.reduceEq, xA_1, xA_15, xA_255, xA_511, xA_65535, xA_32768]
    exact hi hk
theorem l_mtype (n : Nat) : ∀ (f : Nat → Nat → Int) (a : Nat → Int → Int), 0 ≤ f 21 7 → f 21 7 + n ≤ 1200 → n ≤ 8 → 1 ≤ d → f 21 0 = 0 → Q (hh (xu f 21 7 (f 21 7 + n)) (tyA 24 vl n a (f 21 7)) g, .returned (some (.int (xI (f 21 7 + n))))) → xT d 157 40 [.ref 21, .long vl, .null, .int (xI x), .int (xI ((n : Int) - 1))] [] (hh f a g) Q := by
  induction n with
  | zero =>
    intro f a h0 h1 h2 hd h3 hk
    rw [r157_40]
    have e : f 21 7 + ((0 : Nat) : Int) = f 21 7 := by omega
    have h3' : ¬ 0 < f 21 0 := by omega
    rw [e, xu_same] at hk
    have hz : ((0 : Nat) : Int) - 1 < 0 := by omega
    simp (config := {contextual := true, maxSteps := 1000000}) (disch := omega) only [r157_0, r157_1, r157_2, r157_3, r157_5, r157_8, r157_11, r157_12, r157_15, r157_16, r157_19, r157_20, r157_21, r157_24, r157_27, r157_28, r157_31, r157_32, r157_35, r157_36, r157_37, r157_38, r157_42, r157_45, r157_46, r157_49, r157_52, r157_53, r157_54, r157_56, r157_58, r157_59, r157_60, r157_61, r157_64, r157_65, r157_68, r157_71, r157_74, r157_75, r157_78, r157_81, r157_82, r157_85, r157_86, r157_89, h3', hz, xAf_none, xAf_some, xu_app, Nat.reduceAdd, Nat.reduceSub, Nat.reduceEqDiff, Nat.reduceMul, reduceIte, and_self, and_true, true_and, and_false, false_and, true_implies, false_implies, implies_true, not_true_eq_false, not_false_eq_true, Int.reduceToNat, Int.reducePow, Int.reduceNeg, Int.reduceLT, Int.reduceLE, Int.reduceAdd, Int.reduceSub, Int.reduceMul, Int.reduceDiv, Int.reduceMod, Int.reduceEq, xA_1, xA_15, xA_255, xA_511, xA_65535, xA_32768]
    exact hk
  | succ n ih =>
    intro f a h0 h1 h2 hd h3 hk
    rw [r157_40]
    have hc : ¬ ((n + 1 : Nat) : Int) - 1 < 0 := by omega
    have hv : 8 * (((n + 1 : Nat) : Int) - 1) = 8 * (n : Int) := by omega
    have hv2 : ((n + 1 : Nat) : Int) - 1 + -1 = (n : Int) - 1 := by omega
    have hi := ih (xu f 21 7 (f 21 7 + 1)) (xw a 24 (f 21 7) (tyB vl n)) (by simp [xu_app]; omega) (by simp [xu_app]; omega) (by omega) hd h3
    have e1 : xu f 21 7 (f 21 7 + 1) 21 7 = f 21 7 + 1 := rfl
    have e2 : f 21 7 + 1 + (n : Int) = f 21 7 + ((n + 1 : Nat) : Int) := by omega
    rw [e1, xu_xu, e2] at hi
    simp (config := {contextual := true, maxSteps := 1000000}) (disch := omega) only [r157_0, r157_1, r157_2, r157_3, r157_5, r157_8, r157_11, r157_12, r157_15, r157_16, r157_19, r157_20, r157_21, r157_24, r157_27, r157_28, r157_31, r157_32, r157_35, r157_36, r157_37, r157_38, r157_42, r157_45, r157_46, r157_49, r157_52, r157_53, r157_54, r157_56, r157_58, r157_59, r157_61, r157_64, r157_65, r157_68, r157_71, r157_74, r157_75, r157_78, r157_81, r157_82, r157_85, r157_86, r157_89, hc, s_mput, h3, hv, hv2, r157_60', xAf_none, xAf_some, xu_app, Nat.reduceAdd, Nat.reduceSub, Nat.reduceEqDiff, Nat.reduceMul, reduceIte, and_self, and_true, true_and, and_false, false_and, true_implies, false_implies, implies_true, not_true_eq_false, not_false_eq_true, Int.reduceToNat, Int.reducePow, Int.reduceNeg, Int.reduceLT, Int.reduceLE, Int.reduceAdd, Int.reduceSub, Int.reduceMul, Int.reduceDiv, Int.reduceMod, Int.reduceEq, xA_1, xA_15, xA_255, xA_511, xA_65535, xA_32768]
    exact hi hk
theorem L_type (x0 : -2147483648 ≤ x) (x1 : x ≤ 2147483647) (hd : 9 ≤ d) (hc : g.2.2.1 ≤ 1075) (hs : g.2.2.2 ≤ 21514) (l0 : 0 ≤ f 8 0) (l1 : f 8 0 ≤ 1200) : xTC d 3 [.ref 1, .long vl, .int (xI x), .ref 34] (hh f a g) Q ↔ ((1 ≤ x ∧ x ≤ 8) ∧ f 8 0 + x ≤ 1200 → Q (hh (xu f 8 0 (f 8 0 + x)) (tyA 9 vl x.toNat a (f 8 0)) (gl g (xI (f 8 0 + x)).toInt64), .returned (some (.int (xI (0)))))) ∧ (¬ (1 ≤ x ∧ x ≤ 8) → Q (hh f a (gx g), .returned (some (.int (xI (1)))))) ∧ ((1 ≤ x ∧ x ≤ 8) ∧ ¬ f 8 0 + x ≤ 1200 → Q (hh f a (gx g), .returned (some (.int (xI (2)))))) := by
  have key : ∀ Q : xm_H × Outcome → Prop, (1 ≤ x ∧ x ≤ 8) ∧ f 8 0 + x ≤ 1200 → (xTC (d - 1) 16 [.ref 1, .long vl, .int (xI x)] (hh f a g) Q ↔ Q (hh (xu f 8 0 (f 8 0 + x)) (tyA 9 vl x.toNat a (f 8 0)) g, .returned (some (.int (xI (f 8 0 + x)))))) := fun Q hx => by
    refine xTC_iff ?_
    rw [e16]
    have h1 : ¬ x < 1 := by omega
    have h2 : ¬ 8 < x := by omega
    have h3 : ¬ 1200 < f 8 0 + x := by omega
    simp (config := {contextual := true, maxSteps := 1000000}) (disch := omega) only [r16_0, r16_1, r16_2, r16_5, r16_6, r16_8, r16_11, r16_21, r16_22, r16_25, r16_28, r16_29, r16_30, r16_33, r16_36, r16_46, r16_47, r16_48, r16_49, r16_53, r16_56, r16_57, r16_60, r16_61, r16_63, r16_65, r16_66, r16_67, r16_70, r16_71, r16_72, r16_75, r16_78, r16_81, r16_82, r16_85, r16_88, h1, h2, h3, xAf_none, xAf_some, xu_app, Nat.reduceAdd, Nat.reduceSub, Nat.reduceEqDiff, Nat.reduceMul, reduceIte, and_self, and_true, true_and, and_false, false_and, true_implies, false_implies, implies_true, not_true_eq_false, not_false_eq_true, Int.reduceToNat, Int.reducePow, Int.reduceNeg, Int.reduceLT, Int.reduceLE, Int.reduceAdd, Int.reduceSub, Int.reduceMul, Int.reduceDiv, Int.reduceMod, Int.reduceEq, xA_1, xA_15, xA_255, xA_511, xA_65535, xA_32768]
    have hl := l_type (d := d - 1) (vl := vl) (g := g) (x := x) x.toNat f a (Q := fun q => q = (hh (xu f 8 0 (f 8 0 + x)) (tyA 9 vl x.toNat a (f 8 0)) g, .returned (some (.int (xI (f 8 0 + x)))))) (by omega) (by omega) (by omega) (by omega)
    rw [show ((x.toNat : Nat) : Int) = x by omega] at hl
    exact hl rfl
  by_cases h1 : 1 ≤ x ∧ x ≤ 8
  · by_cases h2 : f 8 0 + x ≤ 1200
    · rw [e3]
      have hk := key (Q := xAf d 3 6 [.ref 1, .long vl, .null, .int (xI x), .ref 34, .null] [.int (xI 0), .ref 34] Q) ⟨h1, h2⟩
      simp (config := {contextual := true, maxSteps := 1000000}) (disch := omega) only [r3_0, r3_2, r3_3, r3_4, r3_5, r3_6, r3_6_x0, r3_6_x1, r3_9, r3_11, r3_16, r3_17, r3_20, r3_21, r3_22, r3_23, r3_10, hk, xAf_none, xAf_some, xu_app, Nat.reduceAdd, Nat.reduceSub, Nat.reduceEqDiff, Nat.reduceMul, reduceIte, and_self, and_true, true_and, and_false, false_and, true_implies, false_implies, implies_true, not_true_eq_false, not_false_eq_true, Int.reduceToNat, Int.reducePow, Int.reduceNeg, Int.reduceLT, Int.reduceLE, Int.reduceAdd, Int.reduceSub, Int.reduceMul, Int.reduceDiv, Int.reduceMod, Int.reduceEq, xA_1, xA_15, xA_255, xA_511, xA_65535, xA_32768]
      grind
    · rw [e3]
      have h3 : 1200 < f 8 0 + x := by omega
      simp (config := {contextual := true, maxSteps := 1000000}) (disch := omega) only [r3_0, r3_2, r3_3, r3_4, r3_5, r3_6, r3_6_x0, r3_6_x1, r3_9, r3_11, r3_16, r3_17, r3_20, r3_21, r3_22, r3_23, r3_10, r16_0, r16_1, r16_2, r16_5, r16_6, r16_8, r16_11, r16_21, r16_22, r16_25, r16_28, r16_29, r16_30, r16_33, r16_36, r16_46, r16_47, r16_48, r16_49, r16_53, r16_56, r16_57, r16_60, r16_61, r16_63, r16_65, r16_66, r16_67, r16_70, r16_71, r16_72, r16_75, r16_78, r16_81, r16_82, r16_85, r16_88, e16, h3, r3_6_x0, r3_6_x1, gx_eq, xAf_none, xAf_some, xu_app, Nat.reduceAdd, Nat.reduceSub, Nat.reduceEqDiff, Nat.reduceMul, reduceIte, and_self, and_true, true_and, and_false, false_and, true_implies, false_implies, implies_true, not_true_eq_false, not_false_eq_true, Int.reduceToNat, Int.reducePow, Int.reduceNeg, Int.reduceLT, Int.reduceLE, Int.reduceAdd, Int.reduceSub, Int.reduceMul, Int.reduceDiv, Int.reduceMod, Int.reduceEq, xA_1, xA_15, xA_255, xA_511, xA_65535, xA_32768]
      grind
  · rw [e3]
    simp (config := {contextual := true, maxSteps := 1000000}) (disch := omega) only [r3_0, r3_2, r3_3, r3_4, r3_5, r3_6, r3_6_x0, r3_6_x1, r3_9, r3_11, r3_16, r3_17, r3_20, r3_21, r3_22, r3_23, r3_10, r16_0, r16_1, r16_2, r16_5, r16_6, r16_8, r16_11, r16_21, r16_22, r16_25, r16_28, r16_29, r16_30, r16_33, r16_36, r16_46, r16_47, r16_48, r16_49, r16_53, r16_56, r16_57, r16_60, r16_61, r16_63, r16_65, r16_66, r16_67, r16_70, r16_71, r16_72, r16_75, r16_78, r16_81, r16_82, r16_85, r16_88, e16, r3_6_x0, r3_6_x1, gx_eq, xAf_none, xAf_some, xu_app, Nat.reduceAdd, Nat.reduceSub, Nat.reduceEqDiff, Nat.reduceMul, reduceIte, and_self, and_true, true_and, and_false, false_and, true_implies, false_implies, implies_true, not_true_eq_false, not_false_eq_true, Int.reduceToNat, Int.reducePow, Int.reduceNeg, Int.reduceLT, Int.reduceLE, Int.reduceAdd, Int.reduceSub, Int.reduceMul, Int.reduceDiv, Int.reduceMod, Int.reduceEq, xA_1, xA_15, xA_255, xA_511, xA_65535, xA_32768]
    grind
theorem M_type (x0 : -2147483648 ≤ x) (x1 : x ≤ 2147483647) (hd : 3 ≤ d) (l0 : 0 ≤ f 21 7) (l1 : f 21 7 ≤ 1200) : xTC d 157 [.ref 21, .long vl, .int (xI x)] (hh f a g) Q ↔ ((1 ≤ x ∧ x ≤ 8) ∧ f 21 7 + x ≤ 1200 → Q (hh (xu (xu f 21 0 0) 21 7 (f 21 7 + x)) (tyA 24 vl x.toNat a (f 21 7)) g, .returned (some (.int (xI (f 21 7 + x)))))) ∧ (¬ (1 ≤ x ∧ x ≤ 8) → Q (hh (xu f 21 0 1) a g, .returned (some (.int (xI (0)))))) ∧ ((1 ≤ x ∧ x ≤ 8) ∧ ¬ f 21 7 + x ≤ 1200 → Q (hh (xu f 21 0 2) a g, .returned (some (.int (xI (0)))))) := by
  have key : ∀ Q : xm_H × Outcome → Prop, (1 ≤ x ∧ x ≤ 8) ∧ f 21 7 + x ≤ 1200 → (xTC d 157 [.ref 21, .long vl, .int (xI x)] (hh f a g) Q ↔ Q (hh (xu (xu f 21 0 0) 21 7 (f 21 7 + x)) (tyA 24 vl x.toNat a (f 21 7)) g, .returned (some (.int (xI (f 21 7 + x)))))) := fun Q hx => by
    refine xTC_iff ?_
    rw [e157]
    have h1 : 1 ≤ x ∧ x ≤ 8 := hx.1
    have h3 : ¬ 1200 < f 21 7 + x := by omega
    simp (config := {contextual := true, maxSteps := 1000000}) (disch := omega) only [r157_0, r157_1, r157_2, r157_3, r157_5, r157_8, r157_11, r157_12, r157_15, r157_16, r157_19, r157_20, r157_21, r157_24, r157_27, r157_28, r157_31, r157_32, r157_35, r157_36, r157_37, r157_38, r157_42, r157_45, r157_46, r157_49, r157_52, r157_53, r157_54, r157_56, r157_58, r157_59, r157_60, r157_61, r157_64, r157_65, r157_68, r157_71, r157_74, r157_75, r157_78, r157_81, r157_82, r157_85, r157_86, r157_89, s_between, h1, h3, xAf_none, xAf_some, xu_app, Nat.reduceAdd, Nat.reduceSub, Nat.reduceEqDiff, Nat.reduceMul, reduceIte, and_self, and_true, true_and, and_false, false_and, true_implies, false_implies, implies_true, not_true_eq_false, not_false_eq_true, Int.reduceToNat, Int.reducePow, Int.reduceNeg, Int.reduceLT, Int.reduceLE, Int.reduceAdd, Int.reduceSub, Int.reduceMul, Int.reduceDiv, Int.reduceMod, Int.reduceEq, xA_1, xA_15, xA_255, xA_511, xA_65535, xA_32768]
    have hl := l_mtype (d := d) (vl := vl) (g := g) (x := x) x.toNat (xu f 21 0 0) a (Q := fun q => q = (hh (xu (xu f 21 0 0) 21 7 (f 21 7 + x)) (tyA 24 vl x.toNat a (f 21 7)) g, .returned (some (.int (xI (f 21 7 + x)))))) (by simp [xu_app]; omega) (by simp [xu_app]; omega) (by omega) (by omega) rfl
    rw [show ((x.toNat : Nat) : Int) = x by omega] at hl
    exact hl rfl
  by_cases h1 : 1 ≤ x ∧ x ≤ 8
  · by_cases h2 : f 21 7 + x ≤ 1200
    · rw [key Q ⟨h1, h2⟩]; grind
    · rw [e157]
      have h3 : 1200 < f 21 7 + x := by omega
      simp (config := {contextual := true, maxSteps := 1000000}) (disch := omega) only [r157_0, r157_1, r157_2, r157_3, r157_5, r157_8, r157_11, r157_12, r157_15, r157_16, r157_19, r157_20, r157_21, r157_24, r157_27, r157_28, r157_31, r157_32, r157_35, r157_36, r157_37, r157_38, r157_42, r157_45, r157_46, r157_49, r157_52, r157_53, r157_54, r157_56, r157_58, r157_59, r157_60, r157_61, r157_64, r157_65, r157_68, r157_71, r157_74, r157_75, r157_78, r157_81, r157_82, r157_85, r157_86, r157_89, s_between, h1, h3, r157_40, xAf_none, xAf_some, xu_app, Nat.reduceAdd, Nat.reduceSub, Nat.reduceEqDiff, Nat.reduceMul, reduceIte, and_self, and_true, true_and, and_false, false_and, true_implies, false_implies, implies_true, not_true_eq_false, not_false_eq_true, Int.reduceToNat, Int.reducePow, Int.reduceNeg, Int.reduceLT, Int.reduceLE, Int.reduceAdd, Int.reduceSub, Int.reduceMul, Int.reduceDiv, Int.reduceMod, Int.reduceEq, xA_1, xA_15, xA_255, xA_511, xA_65535, xA_32768]
      grind
  · rw [e157]
    by_cases h2 : x = -2147483648
    · subst h2
      have e : xI (-2147483649) = xI 2147483647 := by decide
      simp (config := {contextual := true, maxSteps := 1000000}) (disch := omega) only [r157_0, r157_1, r157_2, r157_3, r157_5, r157_8, r157_11, r157_12, r157_15, r157_16, r157_19, r157_20, r157_21, r157_24, r157_27, r157_28, r157_31, r157_32, r157_35, r157_36, r157_37, r157_38, r157_42, r157_45, r157_46, r157_49, r157_52, r157_53, r157_54, r157_56, r157_58, r157_59, r157_60, r157_61, r157_64, r157_65, r157_68, r157_71, r157_74, r157_75, r157_78, r157_81, r157_82, r157_85, r157_86, r157_89, s_between, r157_40, e, xAf_none, xAf_some, xu_app, Nat.reduceAdd, Nat.reduceSub, Nat.reduceEqDiff, Nat.reduceMul, reduceIte, and_self, and_true, true_and, and_false, false_and, true_implies, false_implies, implies_true, not_true_eq_false, not_false_eq_true, Int.reduceToNat, Int.reducePow, Int.reduceNeg, Int.reduceLT, Int.reduceLE, Int.reduceAdd, Int.reduceSub, Int.reduceMul, Int.reduceDiv, Int.reduceMod, Int.reduceEq, xA_1, xA_15, xA_255, xA_511, xA_65535, xA_32768]
      all_goals grind
    · simp (config := {contextual := true, maxSteps := 1000000}) (disch := omega) only [r157_0, r157_1, r157_2, r157_3, r157_5, r157_8, r157_11, r157_12, r157_15, r157_16, r157_19, r157_20, r157_21, r157_24, r157_27, r157_28, r157_31, r157_32, r157_35, r157_36, r157_37, r157_38, r157_42, r157_45, r157_46, r157_49, r157_52, r157_53, r157_54, r157_56, r157_58, r157_59, r157_60, r157_61, r157_64, r157_65, r157_68, r157_71, r157_74, r157_75, r157_78, r157_81, r157_82, r157_85, r157_86, r157_89, s_between, h1, r157_40, xAf_none, xAf_some, xu_app, Nat.reduceAdd, Nat.reduceSub, Nat.reduceEqDiff, Nat.reduceMul, reduceIte, and_self, and_true, true_and, and_false, false_and, true_implies, false_implies, implies_true, not_true_eq_false, not_false_eq_true, Int.reduceToNat, Int.reducePow, Int.reduceNeg, Int.reduceLT, Int.reduceLE, Int.reduceAdd, Int.reduceSub, Int.reduceMul, Int.reduceDiv, Int.reduceMod, Int.reduceEq, xA_1, xA_15, xA_255, xA_511, xA_65535, xA_32768]
      grind
end S34
