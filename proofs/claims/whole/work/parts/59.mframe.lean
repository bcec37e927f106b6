/-! THE MODEL WRITES: the values of a frame, its slices -/
/-- the model's blocks -/
def xK (f : Nat → Nat → Int) (a : Nat → Int → Int) (B : List Int) : Prop := f 21 37 = (B.length : Int) ∧ ∀ j : Nat, j < B.length → j < 1300 → a 32 (j : Int) = B.getD j 0
/-- what coding frames changes -/
def xFw (f : Nat → Nat → Int) (a : Nat → Int → Int) (f' : Nat → Nat → Int) (a' : Nat → Int → Int) : Prop := (∀ i, i ≠ 21 → f' i = f i) ∧ (∀ k, k < 20 → f' 21 k = f 21 k) ∧ (∀ i, i < 27 ∨ 33 < i → a' i = a i)
theorem xFw.refl (f : Nat → Nat → Int) (a : Nat → Int → Int) : xFw f a f a := ⟨fun _ _ => rfl, fun _ _ => rfl, fun _ _ => rfl⟩
theorem xFw.trans {f f' f'' : Nat → Nat → Int} {a a' a'' : Nat → Int → Int} (h : xFw f a f' a') (h' : xFw f' a' f'' a'') : xFw f a f'' a'' :=
  ⟨fun i h1 => (h'.1 i h1).trans (h.1 i h1), fun k h1 => (h'.2.1 k h1).trans (h.2.1 k h1), fun i h1 => (h'.2.2 i h1).trans (h.2.2 i h1)⟩
theorem xFm.w {f f' : Nat → Nat → Int} {a a' : Nat → Int → Int} (h : xFm f a f' a') : xFw f a f' a' :=
  ⟨h.1, fun k hk => h.2.1 k (by omega), fun i hi => h.2.2 i (by omega) (by omega) (by omega) (by omega) (by omega)⟩
/-- only the blocks have changed -/
def xFk (f : Nat → Nat → Int) (a : Nat → Int → Int) (f' : Nat → Nat → Int) (a' : Nat → Int → Int) : Prop := (∀ i, i ≠ 21 → f' i = f i) ∧ (∀ k, k ≠ 37 → f' 21 k = f 21 k) ∧ (∀ i, i ≠ 32 → a' i = a i)
theorem xFk.refl (f : Nat → Nat → Int) (a : Nat → Int → Int) : xFk f a f a := ⟨fun _ _ => rfl, fun _ _ => rfl, fun _ _ => rfl⟩
theorem xFk.trans {f f' f'' : Nat → Nat → Int} {a a' a'' : Nat → Int → Int} (h : xFk f a f' a') (h' : xFk f' a' f'' a'') : xFk f a f'' a'' :=
  ⟨fun i h1 => (h'.1 i h1).trans (h.1 i h1), fun k h1 => (h'.2.1 k h1).trans (h.2.1 k h1), fun i h1 => (h'.2.2 i h1).trans (h.2.2 i h1)⟩
theorem xFk.w {f f' : Nat → Nat → Int} {a a' : Nat → Int → Int} (h : xFk f a f' a') : xFw f a f' a' :=
  ⟨h.1, fun k hk => h.2.1 k (by omega), fun i hi => h.2.2 i (by omega)⟩
section S59
variable {d : Nat} {Q : xm_H × Outcome → Prop} {g : xG} {f : Nat → Nat → Int} {a : Nat → Int → Int} {fr pn w h md sl i y0 y1 v : Int} {V V' S T : Int → Int} {B : List Int}
theorem p_pb (hB : xK f a B) (hl : B.length ≤ 100000) (hk : ∀ f' a', xK f' a' (B ++ [v]) → xFk f a f' a' → Q (hh f' a' g, .returned none)) : xTC d 132 [.ref 21, .int (xI v)] (hh f a g) Q := by
  obtain ⟨h0, h1⟩ := hB
  rw [e132]
  by_cases hc : B.length < 1300
  · simp (config := {contextual := true, maxSteps := 1000000}) (disch := omega) only [r132_0, r132_1, r132_4, r132_7_T, r132_7_F, r132_7, r132_10, r132_11, r132_14, r132_15, r132_18, r132_19, r132_20, r132_21, r132_22, r132_25, r132_26, r132_27, r132_30, h0, xAf_none, xAf_some, xu_app, Nat.reduceAdd, Nat.reduceSub, Nat.reduceEqDiff, Nat.reduceMul, reduceIte, and_self, and_true, true_and, and_false, false_and, true_implies, false_implies, implies_true, not_true_eq_false, not_false_eq_true, Int.reduceToNat, Int.reducePow, Int.reduceNeg, Int.reduceLT, Int.reduceLE, Int.reduceAdd, Int.reduceSub, Int.reduceMul, Int.reduceDiv, Int.reduceMod, Int.reduceEq, xA_1, xA_15, xA_255, xA_511, xA_65535, xA_32768]
    refine hk _ _ ⟨?_, fun j hj hj2 => ?_⟩ ⟨fun i hi => xu_ne _ hi, fun k hk => ?_, fun i hi => xw_ne _ hi⟩
    · rw [xu_app, if_pos ⟨rfl, rfl⟩, List.length_append, List.length_singleton]; omega
    · rw [List.length_append, List.length_singleton] at hj
      rw [xw_app]
      by_cases hjl : j = B.length
      · subst hjl; rw [getD_last, if_pos ⟨rfl, rfl⟩]
      · rw [getD_snoc (by omega), if_neg (by omega)]; exact h1 j (by omega) hj2
    · rw [xu_app, if_neg (by omega)]
  · simp (config := {contextual := true, maxSteps := 1000000}) (disch := omega) only [r132_0, r132_1, r132_4, r132_7_T, r132_7_F, r132_7, r132_10, r132_11, r132_14, r132_15, r132_18, r132_19, r132_20, r132_21, r132_22, r132_25, r132_26, r132_27, r132_30, h0, xAf_none, xAf_some, xu_app, Nat.reduceAdd, Nat.reduceSub, Nat.reduceEqDiff, Nat.reduceMul, reduceIte, and_self, and_true, true_and, and_false, false_and, true_implies, false_implies, implies_true, not_true_eq_false, not_false_eq_true, Int.reduceToNat, Int.reducePow, Int.reduceNeg, Int.reduceLT, Int.reduceLE, Int.reduceAdd, Int.reduceSub, Int.reduceMul, Int.reduceDiv, Int.reduceMod, Int.reduceEq, xA_1, xA_15, xA_255, xA_511, xA_65535, xA_32768]
    refine hk _ _ ⟨?_, fun j hj hj2 => ?_⟩ ⟨fun i hi => xu_ne _ hi, fun k hk => ?_, fun i hi => rfl⟩
    · rw [xu_app, if_pos ⟨rfl, rfl⟩, List.length_append, List.length_singleton]; omega
    · rw [getD_snoc (by omega)]; exact h1 j (by omega) hj2
    · rw [xu_app, if_neg (by omega)]
theorem l_fv (hpn : f 21 3 = pn) (hp : pn = 1 ∨ pn = 3) (f0 : 0 ≤ fr) (f1 : fr < 3) {S : Int → Int} (hS : ∀ j, -256 ≤ S j ∧ S j ≤ 511) (n : Nat) : ∀ (a : Nat → Int → Int) (i : Int) (l3 l4 l5 : Value), i + n = 36 → 0 ≤ i → a 23 = S → (∀ j, -1000 ≤ a 27 j ∧ a 27 j ≤ 1000) →
    (∀ a', (∀ c, c ≠ 27 → a' c = a c) → (∀ j, -1000 ≤ a' 27 j ∧ a' 27 j ≤ 1000) → (∀ j, i ≤ j → j < 36 → a' 27 j = vS S fr pn j ∧ (pn = 3 → a' 27 (36 + j) = vS S fr pn (36 + j) ∧ a' 27 (72 + j) = vS S fr pn (72 + j))) → (∀ j, 0 ≤ j → j < i → a' 27 j = a 27 j ∧ a' 27 (36 + j) = a 27 (36 + j) ∧ a' 27 (72 + j) = a 27 (72 + j)) → Q (hh f a' g, .returned none)) →
    xT d 133 2 [.ref 21, .int (xI fr), .int (xI i), l3, l4, l5] [] (hh f a g) Q := by
  induction n with
  | zero =>
    intro a i l3 l4 l5 hi i0 h4 hb hk
    rw [r133_2]
    simp (config := {contextual := true, maxSteps := 1000000}) (disch := omega) only [r133_0, r133_1, r133_3, r133_5_T, r133_5_F, r133_5, r133_8, r133_9, r133_12, r133_14, r133_15, r133_16, r133_17, r133_18, r133_19, r133_20, r133_21, r133_24, r133_26, r133_27, r133_28, r133_30, r133_31, r133_32, r133_33, r133_34, r133_36, r133_37, r133_40, r133_42, r133_43, r133_44, r133_46, r133_47, r133_48, r133_49, r133_50, r133_52, r133_53, r133_56, r133_57, r133_58, r133_61, r133_62_T, r133_62_F, r133_62, r133_65, r133_66, r133_69, r133_71, r133_73, r133_75, r133_76, r133_77, r133_78, r133_80, r133_81, r133_82, r133_83, r133_84, r133_85, r133_86, r133_89, r133_91, r133_92, r133_93, r133_95, r133_97, r133_98, r133_99, r133_100, r133_103, r133_105, r133_106, r133_107, r133_108, r133_110, r133_111, r133_112, r133_115, r133_118, xAf_none, xAf_some, xu_app, Nat.reduceAdd, Nat.reduceSub, Nat.reduceEqDiff, Nat.reduceMul, reduceIte, and_self, and_true, true_and, and_false, false_and, true_implies, false_implies, implies_true, not_true_eq_false, not_false_eq_true, Int.reduceToNat, Int.reducePow, Int.reduceNeg, Int.reduceLT, Int.reduceLE, Int.reduceAdd, Int.reduceSub, Int.reduceMul, Int.reduceDiv, Int.reduceMod, Int.reduceEq, xA_1, xA_15, xA_255, xA_511, xA_65535, xA_32768]
    exact hk a (fun _ _ => rfl) hb (fun j h1 h2 => by omega) (fun j _ _ => ⟨rfl, rfl, rfl⟩)
  | succ n ih =>
    intro a i l3 l4 l5 hi i0 h4 hb hk
    have e4 : ∀ j, a 23 j = S j := fun j => by rw [h4]
    have b0 := hS (108 * fr + i)
    have b1 := hS (108 * fr + 36 + i)
    have b2 := hS (108 * fr + 72 + i)
    rw [r133_2]
    have hrest : ∀ v0 v1 v2 : Int, v0 = vS S fr pn i → v1 = S (108 * fr + 72 + i) - S (108 * fr + 36 + i) → v2 = S (108 * fr + i) - S (108 * fr + 36 + i) → ∀ l3 l4 l5 : Value, xT d 133 2 [.ref 21, .int (xI fr), .int (xI (i + 1)), l3, l4, l5] [] (hh f (xw (xw (xw a 27 i v0) 27 (36 + i) v1) 27 (72 + i) v2) g) Q := by
      intro v0 v1 v2 q0 q1 q2 l3 l4 l5
      have b3 : -1000 ≤ v0 ∧ v0 ≤ 1000 := by
        rw [q0]; unfold vS; split
        · omega
        · rw [if_pos (by omega)]; omega
      refine ih _ (i + 1) _ _ _ (by omega) (by omega) ?_ ?_ fun a' k1 k2 k3 k4 => hk a' (fun c hc => (k1 c hc).trans (by rw [xw_ne _ hc, xw_ne _ hc, xw_ne _ hc])) k2 (fun j h1 h2 => ?_) (fun j h1 h2 => ?_)
      · rw [xw_ne _ (by decide), xw_ne _ (by decide), xw_ne _ (by decide)]; exact h4
      · intro j; rw [xw_app]; split
        · omega
        · rw [xw_app]; split
          · omega
          · rw [xw_app]; split
            · exact b3
            · exact hb j
      · by_cases hj : j = i
        · subst hj
          obtain ⟨r1, r2, r3⟩ := k4 j (by omega) (by omega)
          rw [xw_app, if_neg (by omega), xw_app, if_neg (by omega), xw_app, if_pos ⟨rfl, rfl⟩] at r1
          rw [xw_app, if_neg (by omega), xw_app, if_pos ⟨rfl, rfl⟩] at r2
          rw [xw_app, if_pos ⟨rfl, rfl⟩] at r3
          refine ⟨r1.trans q0, fun hp3 => ⟨?_, ?_⟩⟩
          · rw [r2, q1]; unfold vS; rw [if_neg (by omega), if_neg (by omega), if_pos (by omega)]
            congr 1
            · congr 1; omega
            · congr 1; omega
          · rw [r3, q2]; unfold vS; rw [if_neg (by omega), if_neg (by omega), if_neg (by omega)]
            congr 1
            · congr 1; omega
            · congr 1; omega
        · exact k3 j (by omega) h2
      · obtain ⟨q1, q2, q3⟩ := k4 j h1 (by omega)
        rw [xw_app, if_neg (by omega), xw_app, if_neg (by omega), xw_app, if_neg (by omega)] at q1
        rw [xw_app, if_neg (by omega), xw_app, if_neg (by omega), xw_app, if_neg (by omega)] at q2
        rw [xw_app, if_neg (by omega), xw_app, if_neg (by omega), xw_app, if_neg (by omega)] at q3
        exact ⟨q1, q2, q3⟩
    rcases hp with rfl | rfl
    · simp (config := {contextual := true, maxSteps := 1000000}) (disch := omega) only [r133_0, r133_1, r133_3, r133_5_T, r133_5_F, r133_5, r133_8, r133_9, r133_12, r133_14, r133_15, r133_16, r133_17, r133_18, r133_19, r133_20, r133_21, r133_24, r133_26, r133_27, r133_28, r133_30, r133_31, r133_32, r133_33, r133_34, r133_36, r133_37, r133_40, r133_42, r133_43, r133_44, r133_46, r133_47, r133_48, r133_49, r133_50, r133_52, r133_53, r133_56, r133_57, r133_58, r133_61, r133_62_T, r133_62_F, r133_62, r133_65, r133_66, r133_69, r133_71, r133_73, r133_75, r133_76, r133_77, r133_78, r133_80, r133_81, r133_82, r133_83, r133_84, r133_85, r133_86, r133_89, r133_91, r133_92, r133_93, r133_95, r133_97, r133_98, r133_99, r133_100, r133_103, r133_105, r133_106, r133_107, r133_108, r133_110, r133_111, r133_112, r133_115, r133_118, e4, hpn, xAf_none, xAf_some, xu_app, Nat.reduceAdd, Nat.reduceSub, Nat.reduceEqDiff, Nat.reduceMul, reduceIte, and_self, and_true, true_and, and_false, false_and, true_implies, false_implies, implies_true, not_true_eq_false, not_false_eq_true, Int.reduceToNat, Int.reducePow, Int.reduceNeg, Int.reduceLT, Int.reduceLE, Int.reduceAdd, Int.reduceSub, Int.reduceMul, Int.reduceDiv, Int.reduceMod, Int.reduceEq, xA_1, xA_15, xA_255, xA_511, xA_65535, xA_32768]
      refine hrest _ _ _ ?_ rfl rfl _ _ _
      unfold vS; rw [if_pos rfl]
    · simp (config := {contextual := true, maxSteps := 1000000}) (disch := omega) only [r133_0, r133_1, r133_3, r133_5_T, r133_5_F, r133_5, r133_8, r133_9, r133_12, r133_14, r133_15, r133_16, r133_17, r133_18, r133_19, r133_20, r133_21, r133_24, r133_26, r133_27, r133_28, r133_30, r133_31, r133_32, r133_33, r133_34, r133_36, r133_37, r133_40, r133_42, r133_43, r133_44, r133_46, r133_47, r133_48, r133_49, r133_50, r133_52, r133_53, r133_56, r133_57, r133_58, r133_61, r133_62_T, r133_62_F, r133_62, r133_65, r133_66, r133_69, r133_71, r133_73, r133_75, r133_76, r133_77, r133_78, r133_80, r133_81, r133_82, r133_83, r133_84, r133_85, r133_86, r133_89, r133_91, r133_92, r133_93, r133_95, r133_97, r133_98, r133_99, r133_100, r133_103, r133_105, r133_106, r133_107, r133_108, r133_110, r133_111, r133_112, r133_115, r133_118, e4, hpn, xAf_none, xAf_some, xu_app, Nat.reduceAdd, Nat.reduceSub, Nat.reduceEqDiff, Nat.reduceMul, reduceIte, and_self, and_true, true_and, and_false, false_and, true_implies, false_implies, implies_true, not_true_eq_false, not_false_eq_true, Int.reduceToNat, Int.reducePow, Int.reduceNeg, Int.reduceLT, Int.reduceLE, Int.reduceAdd, Int.reduceSub, Int.reduceMul, Int.reduceDiv, Int.reduceMod, Int.reduceEq, xA_1, xA_15, xA_255, xA_511, xA_65535, xA_32768]
      refine hrest _ _ _ ?_ rfl rfl _ _ _
      unfold vS; rw [if_neg (by omega), if_pos (by omega)]
      congr 2; omega
theorem p_fv (hpn : f 21 3 = pn) (hp : pn = 1 ∨ pn = 3) (f0 : 0 ≤ fr) (f1 : fr < 3) (hS : ∀ j, -256 ≤ a 23 j ∧ a 23 j ≤ 511) (hb : ∀ j, -1000 ≤ a 27 j ∧ a 27 j ≤ 1000) (hk : ∀ a', (∀ c, c ≠ 27 → a' c = a c) → (∀ j, -1000 ≤ a' 27 j ∧ a' 27 j ≤ 1000) → (∀ w y0 y1, w ≤ 6 → 0 ≤ y0 → y1 ≤ 6 → agr (a' 27) (vS (a 23) fr pn) w y0 y1 pn) → Q (hh f a' g, .returned none)) : xTC d 133 [.ref 21, .int (xI fr)] (hh f a g) Q := by
  rw [e133]
  simp (config := {contextual := true, maxSteps := 1000000}) (disch := omega) only [r133_0, r133_1, r133_3, r133_5_T, r133_5_F, r133_5, r133_8, r133_9, r133_12, r133_14, r133_15, r133_16, r133_17, r133_18, r133_19, r133_20, r133_21, r133_24, r133_26, r133_27, r133_28, r133_30, r133_31, r133_32, r133_33, r133_34, r133_36, r133_37, r133_40, r133_42, r133_43, r133_44, r133_46, r133_47, r133_48, r133_49, r133_50, r133_52, r133_53, r133_56, r133_57, r133_58, r133_61, r133_62_T, r133_62_F, r133_62, r133_65, r133_66, r133_69, r133_71, r133_73, r133_75, r133_76, r133_77, r133_78, r133_80, r133_81, r133_82, r133_83, r133_84, r133_85, r133_86, r133_89, r133_91, r133_92, r133_93, r133_95, r133_97, r133_98, r133_99, r133_100, r133_103, r133_105, r133_106, r133_107, r133_108, r133_110, r133_111, r133_112, r133_115, r133_118, xAf_none, xAf_some, xu_app, Nat.reduceAdd, Nat.reduceSub, Nat.reduceEqDiff, Nat.reduceMul, reduceIte, and_self, and_true, true_and, and_false, false_and, true_implies, false_implies, implies_true, not_true_eq_false, not_false_eq_true, Int.reduceToNat, Int.reducePow, Int.reduceNeg, Int.reduceLT, Int.reduceLE, Int.reduceAdd, Int.reduceSub, Int.reduceMul, Int.reduceDiv, Int.reduceMod, Int.reduceEq, xA_1, xA_15, xA_255, xA_511, xA_65535, xA_32768]
  refine l_fv hpn hp f0 f1 hS 36 a 0 _ _ _ (by omega) (by omega) rfl hb fun a' k1 k2 k3 _ => hk a' k1 k2 fun w y0 y1 hw hy0 hy1 => agr_of (h := 0) hw hy0 hy1 hp fun j j0 j1 => k3 j j0 j1
/-- the model codes a slice, in either mode -/
theorem p_msl (hmd : md = 0 ∨ md = 1) (hm : f 21 17 = md) (hw : f 21 20 = w) (w0 : 1 ≤ w) (w1 : w ≤ 6) (hy0 : 0 ≤ y0) (hyy : y0 ≤ y1) (hy1 : y1 ≤ 6) (p0 : 0 ≤ pn) (p1 : pn ≤ 3) (hVb : ∀ j, -1000 ≤ a 27 j ∧ a 27 j ≤ 1000) (hd : 5 ≤ d) (hk : ∀ f' a', f' 21 29 = ((eL md (a 27) w y0 y1 pn).length : Int) → (∀ j : Nat, j < (eL md (a 27) w y0 y1 pn).length → a' 31 (j : Int) = (eL md (a 27) w y0 y1 pn).getD j 0) → a' 27 = a 27 → xFm f a f' a' → Q (hh f' a' g, .returned none)) : xTC d 116 [.ref 21, .int (xI y0), .int (xI y1), .int (xI pn)] (hh f a g) Q := by
  obtain ⟨N, hN⟩ : ∃ N, (y1 - y0).toNat * w.toNat = N := ⟨_, rfl⟩
  have hN36 : N ≤ 36 := by rw [← hN]; exact Nat.le_trans (Nat.mul_le_mul (show (y1 - y0).toNat ≤ 6 by omega) (show w.toNat ≤ 6 by omega)) (by decide)
  have hPN : pn.toNat * N ≤ 108 := Nat.le_trans (Nat.mul_le_mul (show pn.toNat ≤ 3 by omega) hN36) (by decide)
  rcases hmd with rfl | rfl
  · have hO := mOA_b (V := a 27) hN pn.toNat bInit 0 bInit_I (by show (0 : Int) + 21 * (pn.toNat * N : Nat) ≤ 2268; omega)
    refine p_mslice0 hm hw w0 w1 hy0 hyy hy1 p0 p1 rfl hVb hd hO.1 fun f1 a1 I1 V1 F1 => hk f1 a1 ?_ ?_ V1 F1
    · unfold eL; rw [if_pos rfl, dg_len]; exact I1.1
    · unfold eL; rw [if_pos rfl, dg_len]; exact I1.2.2.1
  · have hO := mOA_r (V := a 27) hN pn.toNat rInit 0 0 rInit_I (by unfold rQ rInit; decide) (by omega)
    refine p_mslice1 hm hw w0 w1 hy0 hyy hy1 p0 p1 rfl hVb hd hO.1 fun f1 a1 I1 V1 F1 => hk f1 a1 ?_ ?_ V1 F1
    · unfold eL; rw [if_neg (by decide), dg_len]; exact I1.1
    · unfold eL; rw [if_neg (by decide), dg_len]; exact I1.2.2.1
/-- the bytes of a slice go into the blocks -/
theorem l_mb {D : List Int} (hD : ∀ v ∈ D, 0 ≤ v ∧ v ≤ 255) (hDl : D.length ≤ 1200) (hd : 2 ≤ d) {l1 l2 : Value} {b3 : Int32} (n : Nat) : ∀ (f : Nat → Nat → Int) (a : Nat → Int → Int) (B : List Int) (i : Nat) (r : Int), i + n = D.length → xK f a B → B.length + n ≤ 99000 → f 21 29 = (D.length : Int) → (∀ j : Nat, j < D.length → a 31 (j : Int) = D.getD j 0) → 0 ≤ r → r < 65536 →
    (∀ f' a' l5, xK f' a' (B ++ D.drop i) → xFk f a f' a' → xT d 134 138 [.ref 21, l1, l2, .int b3, .int (xI (crc (lF D) i r n)), l5] [] (hh f' a' g) Q) →
    xT d 134 98 [.ref 21, l1, l2, .int b3, .int (xI r), .int (xI i)] [] (hh f a g) Q := by
  induction n with
  | zero =>
    intro f a B i r hi hB hl h29 h31 r0 r1 hk
    rw [r134_98]
    simp (config := {contextual := true, maxSteps := 1000000}) (disch := omega) only [r134_0, r134_1, r134_4, r134_5, r134_6, r134_7, r134_10, r134_13, r134_14, r134_15, r134_18, r134_21, r134_22, r134_23, r134_26, r134_27, r134_29, r134_30, r134_33_T, r134_33_F, r134_33, r134_36, r134_37, r134_38, r134_39, r134_42, r134_43, r134_44, r134_47, r134_48, r134_49, r134_50, r134_51, r134_52, r134_55, r134_56, r134_57, r134_60, r134_61, r134_62, r134_65, r134_68, r134_69, r134_70, r134_73, r134_75, r134_76, r134_79, r134_80, r134_81, r134_84, r134_87, r134_88, r134_91, r134_93, r134_95, r134_96, r134_100, r134_101, r134_104_T, r134_104_F, r134_104, r134_107, r134_108, r134_109, r134_112, r134_114, r134_115, r134_118, r134_120, r134_121, r134_124, r134_126, r134_127, r134_130, r134_132, r134_135, r134_139, r134_141, r134_143, r134_144, r134_147, r134_148, r134_150, r134_153, r134_154, r134_157, r134_160, r134_163, r134_164, r134_167, r134_168, r134_169, r134_172, r134_173, r134_174, r134_175, h29, xAf_none, xAf_some, xu_app, Nat.reduceAdd, Nat.reduceSub, Nat.reduceEqDiff, Nat.reduceMul, reduceIte, and_self, and_true, true_and, and_false, false_and, true_implies, false_implies, implies_true, not_true_eq_false, not_false_eq_true, Int.reduceToNat, Int.reducePow, Int.reduceNeg, Int.reduceLT, Int.reduceLE, Int.reduceAdd, Int.reduceSub, Int.reduceMul, Int.reduceDiv, Int.reduceMod, Int.reduceEq, xA_1, xA_15, xA_255, xA_511, xA_65535, xA_32768]
    refine hk _ _ _ ?_ (xFk.refl _ _)
    rw [List.drop_of_length_le (by omega), List.append_nil]; exact hB
  | succ n ih =>
    intro f a B i r hi hB hl h29 h31 r0 r1 hk
    have hv := lF_byte hD i
    have hlf : lF D i = D.getD i 0 := by unfold lF; rw [Int.toNat_natCast]
    have e31 : a 31 (i : Int) = lF D i := by rw [hlf]; exact h31 i (by omega)
    rw [r134_98]
    simp (config := {contextual := true, maxSteps := 1000000}) (disch := omega) only [r134_0, r134_1, r134_4, r134_5, r134_6, r134_7, r134_10, r134_13, r134_14, r134_15, r134_18, r134_21, r134_22, r134_23, r134_26, r134_27, r134_29, r134_30, r134_33_T, r134_33_F, r134_33, r134_36, r134_37, r134_38, r134_39, r134_42, r134_43, r134_44, r134_47, r134_48, r134_49, r134_50, r134_51, r134_52, r134_55, r134_56, r134_57, r134_60, r134_61, r134_62, r134_65, r134_68, r134_69, r134_70, r134_73, r134_75, r134_76, r134_79, r134_80, r134_81, r134_84, r134_87, r134_88, r134_91, r134_93, r134_95, r134_96, r134_100, r134_101, r134_104_T, r134_104_F, r134_104, r134_107, r134_108, r134_109, r134_112, r134_114, r134_115, r134_118, r134_120, r134_121, r134_124, r134_126, r134_127, r134_130, r134_132, r134_135, r134_139, r134_141, r134_143, r134_144, r134_147, r134_148, r134_150, r134_153, r134_154, r134_157, r134_160, r134_163, r134_164, r134_167, r134_168, r134_169, r134_172, r134_173, r134_174, r134_175, h29, e31, xAf_none, xAf_some, xu_app, Nat.reduceAdd, Nat.reduceSub, Nat.reduceEqDiff, Nat.reduceMul, reduceIte, and_self, and_true, true_and, and_false, false_and, true_implies, false_implies, implies_true, not_true_eq_false, not_false_eq_true, Int.reduceToNat, Int.reducePow, Int.reduceNeg, Int.reduceLT, Int.reduceLE, Int.reduceAdd, Int.reduceSub, Int.reduceMul, Int.reduceDiv, Int.reduceMod, Int.reduceEq, xA_1, xA_15, xA_255, xA_511, xA_65535, xA_32768]
    refine p_pb hB (by omega) fun f1 a1 B1 F1 => ?_
    have e31' : a1 31 (i : Int) = lF D i := by rw [F1.2.2 31 (by decide)]; exact e31
    have hc1 := crc_lt 1 (D := lF D) (s := i) (r := r) (fun j _ _ => lF_byte hD j) r0 r1
    have hc1' : 0 ≤ crcB r (lF D i) ∧ crcB r (lF D i) < 65536 := hc1
    simp (config := {contextual := true, maxSteps := 1000000}) (disch := omega) only [r134_0, r134_1, r134_4, r134_5, r134_6, r134_7, r134_10, r134_13, r134_14, r134_15, r134_18, r134_21, r134_22, r134_23, r134_26, r134_27, r134_29, r134_30, r134_33_T, r134_33_F, r134_33, r134_36, r134_37, r134_38, r134_39, r134_42, r134_43, r134_44, r134_47, r134_48, r134_49, r134_50, r134_51, r134_52, r134_55, r134_56, r134_57, r134_60, r134_61, r134_62, r134_65, r134_68, r134_69, r134_70, r134_73, r134_75, r134_76, r134_79, r134_80, r134_81, r134_84, r134_87, r134_88, r134_91, r134_93, r134_95, r134_96, r134_100, r134_101, r134_104_T, r134_104_F, r134_104, r134_107, r134_108, r134_109, r134_112, r134_114, r134_115, r134_118, r134_120, r134_121, r134_124, r134_126, r134_127, r134_130, r134_132, r134_135, r134_139, r134_141, r134_143, r134_144, r134_147, r134_148, r134_150, r134_153, r134_154, r134_157, r134_160, r134_163, r134_164, r134_167, r134_168, r134_169, r134_172, r134_173, r134_174, r134_175, e31', s_stir, xAf_none, xAf_some, xu_app, Nat.reduceAdd, Nat.reduceSub, Nat.reduceEqDiff, Nat.reduceMul, reduceIte, and_self, and_true, true_and, and_false, false_and, true_implies, false_implies, implies_true, not_true_eq_false, not_false_eq_true, Int.reduceToNat, Int.reducePow, Int.reduceNeg, Int.reduceLT, Int.reduceLE, Int.reduceAdd, Int.reduceSub, Int.reduceMul, Int.reduceDiv, Int.reduceMod, Int.reduceEq, xA_1, xA_15, xA_255, xA_511, xA_65535, xA_32768]
    have hnx : ((i : Int) + 1) = ((i + 1 : Nat) : Int) := by omega
    rw [hnx]
    refine ih f1 a1 _ (i + 1) (crcB r (lF D i)) (by omega) B1 (by rw [List.length_append, List.length_singleton]; omega) (by rw [F1.2.1 29 (by decide)]; exact h29) (fun j hj => by rw [F1.2.2 31 (by decide)]; exact h31 j hj) hc1'.1 hc1'.2 fun f' a' l5 B' F' => ?_
    have hcc : crc (lF D) ((i + 1 : Nat) : Int) (crcB r (lF D i)) n = crc (lF D) i r (n + 1) := by
      show _ = crc (lF D) ((i : Int) + 1) (crcB r (lF D i)) n
      rw [hnx]
    rw [hcc]
    refine hk f' a' l5 ?_ (F1.trans F')
    have : D.drop i = lF D i :: D.drop (i + 1) := by
      rw [hlf, List.drop_eq_getElem_cons (by omega), List.getD_eq_getElem?_getD, List.getElem?_eq_getElem (by omega)]; rfl
    rw [this]
    rw [List.append_assoc] at B'; exact B'
set_option maxRecDepth 100000 in
/-- the slices of a frame -/
theorem l_ms (hmd : md = 0 ∨ md = 1) (hs : sl = 1 ∨ sl = 2 ∨ sl = 3) (w0 : 1 ≤ w) (w1 : w ≤ 6) (h0 : 1 ≤ h) (h1 : h ≤ 6) (p0 : 0 ≤ pn) (p1 : pn ≤ 3) (hd : 6 ≤ d) {l1 : Value} {b2 : Int32} (n : Nat) : ∀ (f : Nat → Nat → Int) (a : Nat → Int → Int) (B : List Int) (i : Int) (l4 l5 : Value), i + n = sl → 0 ≤ i → xK f a B → B.length + 1204 * n ≤ 90000 → f 21 17 = md → f 21 18 = sl → f 21 20 = w → f 21 21 = h → f 21 3 = pn → agr (a 27) V w 0 h pn → (∀ j, -1000 ≤ a 27 j ∧ a 27 j ≤ 1000) →
    (∀ f' a' l3 l4 l5, xK f' a' (B ++ slsL md sl V w h pn i n) → a' 27 = a 27 → (∀ i, i ≠ 21 → f' i = f i) → (∀ k, k < 25 → f' 21 k = f 21 k) → (∀ i, i < 27 ∨ 32 < i → a' i = a i) → xT d 134 163 [.ref 21, l1, .int b2, l3, l4, l5] [] (hh f' a' g) Q) →
    xT d 134 28 [.ref 21, l1, .int b2, .int (xI i), l4, l5] [] (hh f a g) Q := by
  induction n with
  | zero =>
    intro f a B i l4 l5 hi i0 hB hl hm hsl hw hh hpn hag hb hk
    rw [r134_28]
    simp (config := {contextual := true, maxSteps := 1000000}) (disch := omega) only [r134_0, r134_1, r134_4, r134_5, r134_6, r134_7, r134_10, r134_13, r134_14, r134_15, r134_18, r134_21, r134_22, r134_23, r134_26, r134_27, r134_29, r134_30, r134_33_T, r134_33_F, r134_33, r134_36, r134_37, r134_38, r134_39, r134_42, r134_43, r134_44, r134_47, r134_48, r134_49, r134_50, r134_51, r134_52, r134_55, r134_56, r134_57, r134_60, r134_61, r134_62, r134_65, r134_68, r134_69, r134_70, r134_73, r134_75, r134_76, r134_79, r134_80, r134_81, r134_84, r134_87, r134_88, r134_91, r134_93, r134_95, r134_96, r134_100, r134_101, r134_104_T, r134_104_F, r134_104, r134_107, r134_108, r134_109, r134_112, r134_114, r134_115, r134_118, r134_120, r134_121, r134_124, r134_126, r134_127, r134_130, r134_132, r134_135, r134_138, r134_139, r134_141, r134_143, r134_144, r134_147, r134_148, r134_150, r134_153, r134_154, r134_157, r134_160, r134_164, r134_167, r134_168, r134_169, r134_172, r134_173, r134_174, r134_175, hsl, xAf_none, xAf_some, xu_app, Nat.reduceAdd, Nat.reduceSub, Nat.reduceEqDiff, Nat.reduceMul, reduceIte, and_self, and_true, true_and, and_false, false_and, true_implies, false_implies, implies_true, not_true_eq_false, not_false_eq_true, Int.reduceToNat, Int.reducePow, Int.reduceNeg, Int.reduceLT, Int.reduceLE, Int.reduceAdd, Int.reduceSub, Int.reduceMul, Int.reduceDiv, Int.reduceMod, Int.reduceEq, xA_1, xA_15, xA_255, xA_511, xA_65535, xA_32768]
    refine hk _ _ _ _ _ ?_ rfl (fun _ _ => rfl) (fun _ _ => rfl) (fun _ _ => rfl)
    unfold slsL; rw [List.append_nil]; exact hB
  | succ n ih =>
    intro f a B i l4 l5 hi i0 hB hl hm hsl hw hh hpn hag hb hk
    have hr := row_bd hs i0 (by omega) (by omega : 0 ≤ h)
    rw [r134_28]
    simp (config := {contextual := true, maxSteps := 1000000}) (disch := omega) only [r134_0, r134_1, r134_4, r134_5, r134_6, r134_7, r134_10, r134_13, r134_14, r134_15, r134_18, r134_21, r134_22, r134_23, r134_26, r134_27, r134_29, r134_30, r134_33_T, r134_33_F, r134_33, r134_36, r134_37, r134_38, r134_39, r134_42, r134_43, r134_44, r134_47, r134_48, r134_49, r134_50, r134_51, r134_52, r134_55, r134_56, r134_57, r134_60, r134_61, r134_62, r134_65, r134_68, r134_69, r134_70, r134_73, r134_75, r134_76, r134_79, r134_80, r134_81, r134_84, r134_87, r134_88, r134_91, r134_93, r134_95, r134_96, r134_100, r134_101, r134_104_T, r134_104_F, r134_104, r134_107, r134_108, r134_109, r134_112, r134_114, r134_115, r134_118, r134_120, r134_121, r134_124, r134_126, r134_127, r134_130, r134_132, r134_135, r134_138, r134_139, r134_141, r134_143, r134_144, r134_147, r134_148, r134_150, r134_153, r134_154, r134_157, r134_160, r134_164, r134_167, r134_168, r134_169, r134_172, r134_173, r134_174, r134_175, hsl, hh, hpn, xAf_none, xAf_some, xu_app, Nat.reduceAdd, Nat.reduceSub, Nat.reduceEqDiff, Nat.reduceMul, reduceIte, and_self, and_true, true_and, and_false, false_and, true_implies, false_implies, implies_true, not_true_eq_false, not_false_eq_true, Int.reduceToNat, Int.reducePow, Int.reduceNeg, Int.reduceLT, Int.reduceLE, Int.reduceAdd, Int.reduceSub, Int.reduceMul, Int.reduceDiv, Int.reduceMod, Int.reduceEq, xA_1, xA_15, xA_255, xA_511, xA_65535, xA_32768]
    refine p_msl (md := md) hmd hm hw w0 w1 (by omega) (by omega) (by omega) p0 p1 hb (by omega) fun f1 a1 c1 c2 V1 F1 => ?_
    rw [eL_congr (hag.sub (by omega) (by omega)) w0 (by omega) p0] at c1 c2
    obtain ⟨D, hD⟩ : ∃ D, eL md V w (i * h / sl) ((i + 1) * h / sl) pn = D := ⟨_, rfl⟩
    have hDb : ∀ v ∈ D, 0 ≤ v ∧ v ≤ 255 := by rw [← hD]; exact eL_byte
    have hDl : D.length ≤ 1200 := by rw [← hD]; exact eL_len w0 w1 (by omega) (by omega) (by omega) p0 p1
    rw [hD] at c1 c2
    have hB1 : xK f1 a1 B := ⟨by rw [F1.2.1 37 (by omega)]; exact hB.1, by rw [F1.2.2 32 (by decide) (by decide) (by decide) (by decide) (by decide)]; exact hB.2⟩
    simp (config := {contextual := true, maxSteps := 1000000}) (disch := omega) only [r134_0, r134_1, r134_4, r134_5, r134_6, r134_7, r134_10, r134_13, r134_14, r134_15, r134_18, r134_21, r134_22, r134_23, r134_26, r134_27, r134_29, r134_30, r134_33_T, r134_33_F, r134_33, r134_36, r134_37, r134_38, r134_39, r134_42, r134_43, r134_44, r134_47, r134_48, r134_49, r134_50, r134_51, r134_52, r134_55, r134_56, r134_57, r134_60, r134_61, r134_62, r134_65, r134_68, r134_69, r134_70, r134_73, r134_75, r134_76, r134_79, r134_80, r134_81, r134_84, r134_87, r134_88, r134_91, r134_93, r134_95, r134_96, r134_100, r134_101, r134_104_T, r134_104_F, r134_104, r134_107, r134_108, r134_109, r134_112, r134_114, r134_115, r134_118, r134_120, r134_121, r134_124, r134_126, r134_127, r134_130, r134_132, r134_135, r134_138, r134_139, r134_141, r134_143, r134_144, r134_147, r134_148, r134_150, r134_153, r134_154, r134_157, r134_160, r134_164, r134_167, r134_168, r134_169, r134_172, r134_173, r134_174, r134_175, c1, xAf_none, xAf_some, xu_app, Nat.reduceAdd, Nat.reduceSub, Nat.reduceEqDiff, Nat.reduceMul, reduceIte, and_self, and_true, true_and, and_false, false_and, true_implies, false_implies, implies_true, not_true_eq_false, not_false_eq_true, Int.reduceToNat, Int.reducePow, Int.reduceNeg, Int.reduceLT, Int.reduceLE, Int.reduceAdd, Int.reduceSub, Int.reduceMul, Int.reduceDiv, Int.reduceMod, Int.reduceEq, xA_1, xA_15, xA_255, xA_511, xA_65535, xA_32768]
    refine p_pb hB1 (by omega) fun f2 a2 B2 F2 => ?_
    have d2 : f2 21 29 = (D.length : Int) := by rw [F2.2.1 29 (by decide)]; exact c1
    simp (config := {contextual := true, maxSteps := 1000000}) (disch := omega) only [r134_0, r134_1, r134_4, r134_5, r134_6, r134_7, r134_10, r134_13, r134_14, r134_15, r134_18, r134_21, r134_22, r134_23, r134_26, r134_27, r134_29, r134_30, r134_33_T, r134_33_F, r134_33, r134_36, r134_37, r134_38, r134_39, r134_42, r134_43, r134_44, r134_47, r134_48, r134_49, r134_50, r134_51, r134_52, r134_55, r134_56, r134_57, r134_60, r134_61, r134_62, r134_65, r134_68, r134_69, r134_70, r134_73, r134_75, r134_76, r134_79, r134_80, r134_81, r134_84, r134_87, r134_88, r134_91, r134_93, r134_95, r134_96, r134_100, r134_101, r134_104_T, r134_104_F, r134_104, r134_107, r134_108, r134_109, r134_112, r134_114, r134_115, r134_118, r134_120, r134_121, r134_124, r134_126, r134_127, r134_130, r134_132, r134_135, r134_138, r134_139, r134_141, r134_143, r134_144, r134_147, r134_148, r134_150, r134_153, r134_154, r134_157, r134_160, r134_164, r134_167, r134_168, r134_169, r134_172, r134_173, r134_174, r134_175, d2, xAf_none, xAf_some, xu_app, Nat.reduceAdd, Nat.reduceSub, Nat.reduceEqDiff, Nat.reduceMul, reduceIte, and_self, and_true, true_and, and_false, false_and, true_implies, false_implies, implies_true, not_true_eq_false, not_false_eq_true, Int.reduceToNat, Int.reducePow, Int.reduceNeg, Int.reduceLT, Int.reduceLE, Int.reduceAdd, Int.reduceSub, Int.reduceMul, Int.reduceDiv, Int.reduceMod, Int.reduceEq, xA_1, xA_15, xA_255, xA_511, xA_65535, xA_32768]
    refine p_pb B2 (by rw [List.length_append]; simp only [List.length_singleton]; omega) fun f3 a3 B3 F3 => ?_
    have F23 := F2.trans F3
    simp (config := {contextual := true, maxSteps := 1000000}) (disch := omega) only [r134_0, r134_1, r134_4, r134_5, r134_6, r134_7, r134_10, r134_13, r134_14, r134_15, r134_18, r134_21, r134_22, r134_23, r134_26, r134_27, r134_29, r134_30, r134_33_T, r134_33_F, r134_33, r134_36, r134_37, r134_38, r134_39, r134_42, r134_43, r134_44, r134_47, r134_48, r134_49, r134_50, r134_51, r134_52, r134_55, r134_56, r134_57, r134_60, r134_61, r134_62, r134_65, r134_68, r134_69, r134_70, r134_73, r134_75, r134_76, r134_79, r134_80, r134_81, r134_84, r134_87, r134_88, r134_91, r134_93, r134_95, r134_96, r134_100, r134_101, r134_104_T, r134_104_F, r134_104, r134_107, r134_108, r134_109, r134_112, r134_114, r134_115, r134_118, r134_120, r134_121, r134_124, r134_126, r134_127, r134_130, r134_132, r134_135, r134_138, r134_139, r134_141, r134_143, r134_144, r134_147, r134_148, r134_150, r134_153, r134_154, r134_157, r134_160, r134_164, r134_167, r134_168, r134_169, r134_172, r134_173, r134_174, r134_175, xAf_none, xAf_some, xu_app, Nat.reduceAdd, Nat.reduceSub, Nat.reduceEqDiff, Nat.reduceMul, reduceIte, and_self, and_true, true_and, and_false, false_and, true_implies, false_implies, implies_true, not_true_eq_false, not_false_eq_true, Int.reduceToNat, Int.reducePow, Int.reduceNeg, Int.reduceLT, Int.reduceLE, Int.reduceAdd, Int.reduceSub, Int.reduceMul, Int.reduceDiv, Int.reduceMod, Int.reduceEq, xA_1, xA_15, xA_255, xA_511, xA_65535, xA_32768]
    refine l_mb hDb hDl (by omega) D.length f3 a3 _ 0 65535 (by omega) B3 (by simp only [List.length_append, List.length_singleton]; omega) (by rw [F23.2.1 29 (by decide)]; exact c1) (fun j hj => by rw [F23.2.2 31 (by decide)]; exact c2 j hj) (by omega) (by omega) fun f4 a4 m5 B4 F4 => ?_
    have hcb : 0 ≤ crcL D ∧ crcL D < 65536 := crcL_lt hDb
    have hcc : crc (lF D) ((0 : Nat) : Int) 65535 D.length = crcL D := rfl
    rw [hcc]
    simp (config := {contextual := true, maxSteps := 1000000}) (disch := omega) only [r134_0, r134_1, r134_4, r134_5, r134_6, r134_7, r134_10, r134_13, r134_14, r134_15, r134_18, r134_21, r134_22, r134_23, r134_26, r134_27, r134_29, r134_30, r134_33_T, r134_33_F, r134_33, r134_36, r134_37, r134_38, r134_39, r134_42, r134_43, r134_44, r134_47, r134_48, r134_49, r134_50, r134_51, r134_52, r134_55, r134_56, r134_57, r134_60, r134_61, r134_62, r134_65, r134_68, r134_69, r134_70, r134_73, r134_75, r134_76, r134_79, r134_80, r134_81, r134_84, r134_87, r134_88, r134_91, r134_93, r134_95, r134_96, r134_100, r134_101, r134_104_T, r134_104_F, r134_104, r134_107, r134_108, r134_109, r134_112, r134_114, r134_115, r134_118, r134_120, r134_121, r134_124, r134_126, r134_127, r134_130, r134_132, r134_135, r134_138, r134_139, r134_141, r134_143, r134_144, r134_147, r134_148, r134_150, r134_153, r134_154, r134_157, r134_160, r134_164, r134_167, r134_168, r134_169, r134_172, r134_173, r134_174, r134_175, xAf_none, xAf_some, xu_app, Nat.reduceAdd, Nat.reduceSub, Nat.reduceEqDiff, Nat.reduceMul, reduceIte, and_self, and_true, true_and, and_false, false_and, true_implies, false_implies, implies_true, not_true_eq_false, not_false_eq_true, Int.reduceToNat, Int.reducePow, Int.reduceNeg, Int.reduceLT, Int.reduceLE, Int.reduceAdd, Int.reduceSub, Int.reduceMul, Int.reduceDiv, Int.reduceMod, Int.reduceEq, xA_1, xA_15, xA_255, xA_511, xA_65535, xA_32768]
    refine p_pb B4 (by simp only [List.length_append, List.length_singleton, List.length_drop]; omega) fun f5 a5 B5 F5 => ?_
    simp (config := {contextual := true, maxSteps := 1000000}) (disch := omega) only [r134_0, r134_1, r134_4, r134_5, r134_6, r134_7, r134_10, r134_13, r134_14, r134_15, r134_18, r134_21, r134_22, r134_23, r134_26, r134_27, r134_29, r134_30, r134_33_T, r134_33_F, r134_33, r134_36, r134_37, r134_38, r134_39, r134_42, r134_43, r134_44, r134_47, r134_48, r134_49, r134_50, r134_51, r134_52, r134_55, r134_56, r134_57, r134_60, r134_61, r134_62, r134_65, r134_68, r134_69, r134_70, r134_73, r134_75, r134_76, r134_79, r134_80, r134_81, r134_84, r134_87, r134_88, r134_91, r134_93, r134_95, r134_96, r134_100, r134_101, r134_104_T, r134_104_F, r134_104, r134_107, r134_108, r134_109, r134_112, r134_114, r134_115, r134_118, r134_120, r134_121, r134_124, r134_126, r134_127, r134_130, r134_132, r134_135, r134_138, r134_139, r134_141, r134_143, r134_144, r134_147, r134_148, r134_150, r134_153, r134_154, r134_157, r134_160, r134_164, r134_167, r134_168, r134_169, r134_172, r134_173, r134_174, r134_175, xAf_none, xAf_some, xu_app, Nat.reduceAdd, Nat.reduceSub, Nat.reduceEqDiff, Nat.reduceMul, reduceIte, and_self, and_true, true_and, and_false, false_and, true_implies, false_implies, implies_true, not_true_eq_false, not_false_eq_true, Int.reduceToNat, Int.reducePow, Int.reduceNeg, Int.reduceLT, Int.reduceLE, Int.reduceAdd, Int.reduceSub, Int.reduceMul, Int.reduceDiv, Int.reduceMod, Int.reduceEq, xA_1, xA_15, xA_255, xA_511, xA_65535, xA_32768]
    refine p_pb B5 (by simp only [List.length_append, List.length_singleton, List.length_drop]; omega) fun f6 a6 B6 F6 => ?_
    simp (config := {contextual := true, maxSteps := 1000000}) (disch := omega) only [r134_0, r134_1, r134_4, r134_5, r134_6, r134_7, r134_10, r134_13, r134_14, r134_15, r134_18, r134_21, r134_22, r134_23, r134_26, r134_27, r134_29, r134_30, r134_33_T, r134_33_F, r134_33, r134_36, r134_37, r134_38, r134_39, r134_42, r134_43, r134_44, r134_47, r134_48, r134_49, r134_50, r134_51, r134_52, r134_55, r134_56, r134_57, r134_60, r134_61, r134_62, r134_65, r134_68, r134_69, r134_70, r134_73, r134_75, r134_76, r134_79, r134_80, r134_81, r134_84, r134_87, r134_88, r134_91, r134_93, r134_95, r134_96, r134_100, r134_101, r134_104_T, r134_104_F, r134_104, r134_107, r134_108, r134_109, r134_112, r134_114, r134_115, r134_118, r134_120, r134_121, r134_124, r134_126, r134_127, r134_130, r134_132, r134_135, r134_138, r134_139, r134_141, r134_143, r134_144, r134_147, r134_148, r134_150, r134_153, r134_154, r134_157, r134_160, r134_164, r134_167, r134_168, r134_169, r134_172, r134_173, r134_174, r134_175, xAf_none, xAf_some, xu_app, Nat.reduceAdd, Nat.reduceSub, Nat.reduceEqDiff, Nat.reduceMul, reduceIte, and_self, and_true, true_and, and_false, false_and, true_implies, false_implies, implies_true, not_true_eq_false, not_false_eq_true, Int.reduceToNat, Int.reducePow, Int.reduceNeg, Int.reduceLT, Int.reduceLE, Int.reduceAdd, Int.reduceSub, Int.reduceMul, Int.reduceDiv, Int.reduceMod, Int.reduceEq, xA_1, xA_15, xA_255, xA_511, xA_65535, xA_32768]
    have FF := ((F23.trans F4).trans F5).trans F6
    have eV : a6 27 = a 27 := by rw [FF.2.2 27 (by decide)]; exact V1
    have ef : ∀ k, k < 25 → f6 21 k = f 21 k := fun k hk => by rw [FF.2.1 k (by omega), F1.2.1 k (by omega)]
    have ei : ∀ i, i ≠ 21 → f6 i = f i := fun i hi => by rw [FF.1 i hi, F1.1 i hi]
    have ea : ∀ i, i < 27 ∨ 32 < i → a6 i = a i := fun i hi => by rw [FF.2.2 i (by omega), F1.2.2 i (by omega) (by omega) (by omega) (by omega) (by omega)]
    have B6' : xK f6 a6 (B ++ slL D) := by
      unfold slL
      simp only [List.append_assoc, List.drop_zero, List.cons_append, List.nil_append] at B6 ⊢
      exact B6
    refine ih f6 a6 _ (i + 1) _ _ (by omega) (by omega) B6' (by rw [List.length_append, slL_len]; omega) (by rw [ef 17 (by omega)]; exact hm) (by rw [ef 18 (by omega)]; exact hsl) (by rw [ef 20 (by omega)]; exact hw) (by rw [ef 21 (by omega)]; exact hh) (by rw [ef 3 (by omega)]; exact hpn) (by rw [eV]; exact hag) (by rw [eV]; exact hb) fun f' a' m3 m4 m5 B' V' q1 q2 q3 => hk f' a' m3 m4 m5 ?_ (V'.trans eV) (fun i hi => (q1 i hi).trans (ei i hi)) (fun k hk => (q2 k hk).trans (ef k hk)) (fun i hi => (q3 i hi).trans (ea i hi))
    unfold slsL; rw [hD, ← List.append_assoc]; exact B'
set_option maxRecDepth 100000 in
theorem p_mcf (hB : xK f a B) (hl : B.length ≤ 80000) (hmd : md = 0 ∨ md = 1) (hs : sl = 1 ∨ sl = 2 ∨ sl = 3) (w0 : 1 ≤ w) (w1 : w ≤ 6) (h0 : 1 ≤ h) (h1 : h ≤ 6) (hp : pn = 1 ∨ pn = 3) (f0 : 0 ≤ fr) (f1 : fr < 3) (hm : f 21 17 = md) (hsl : f 21 18 = sl) (hw : f 21 1 = w) (hhh : f 21 2 = h) (hpn : f 21 3 = pn) (hS : ∀ j, -256 ≤ a 23 j ∧ a 23 j ≤ 511) (hb : ∀ j, -1000 ≤ a 27 j ∧ a 27 j ≤ 1000) (hd : 7 ≤ d) (hk : ∀ f' a', xK f' a' (B ++ slsL md sl (vS (a 23) fr pn) w h pn 0 sl.toNat) → a' 33 fr = ((slsL md sl (vS (a 23) fr pn) w h pn 0 sl.toNat).length : Int) → (∀ j, j ≠ fr → a' 33 j = a 33 j) → (∀ j, -1000 ≤ a' 27 j ∧ a' 27 j ≤ 1000) → xFw f a f' a' → Q (hh f' a' g, .returned none)) : xTC d 134 [.ref 21, .int (xI fr)] (hh f a g) Q := by
  have p0 : 0 ≤ pn := by omega
  have p1 : pn ≤ 3 := by omega
  rw [e134]
  simp (config := {contextual := true, maxSteps := 1000000}) (disch := omega) only [r134_0, r134_1, r134_4, r134_5, r134_6, r134_7, r134_10, r134_13, r134_14, r134_15, r134_18, r134_21, r134_22, r134_23, r134_26, r134_27, r134_29, r134_30, r134_33_T, r134_33_F, r134_33, r134_36, r134_37, r134_38, r134_39, r134_42, r134_43, r134_44, r134_47, r134_48, r134_49, r134_50, r134_51, r134_52, r134_55, r134_56, r134_57, r134_60, r134_61, r134_62, r134_65, r134_68, r134_69, r134_70, r134_73, r134_75, r134_76, r134_79, r134_80, r134_81, r134_84, r134_87, r134_88, r134_91, r134_93, r134_95, r134_96, r134_100, r134_101, r134_104_T, r134_104_F, r134_104, r134_107, r134_108, r134_109, r134_112, r134_114, r134_115, r134_118, r134_120, r134_121, r134_124, r134_126, r134_127, r134_130, r134_132, r134_135, r134_138, r134_139, r134_141, r134_143, r134_144, r134_147, r134_148, r134_150, r134_153, r134_154, r134_157, r134_160, r134_164, r134_167, r134_168, r134_169, r134_172, r134_173, r134_174, r134_175, hw, hhh, xAf_none, xAf_some, xu_app, Nat.reduceAdd, Nat.reduceSub, Nat.reduceEqDiff, Nat.reduceMul, reduceIte, and_self, and_true, true_and, and_false, false_and, true_implies, false_implies, implies_true, not_true_eq_false, not_false_eq_true, Int.reduceToNat, Int.reducePow, Int.reduceNeg, Int.reduceLT, Int.reduceLE, Int.reduceAdd, Int.reduceSub, Int.reduceMul, Int.reduceDiv, Int.reduceMod, Int.reduceEq, xA_1, xA_15, xA_255, xA_511, xA_65535, xA_32768]
  refine p_fv (fr := fr) (pn := pn) hpn hp f0 f1 hS hb fun a1 k1 k2 k3 => ?_
  simp (config := {contextual := true, maxSteps := 1000000}) (disch := omega) only [r134_0, r134_1, r134_4, r134_5, r134_6, r134_7, r134_10, r134_13, r134_14, r134_15, r134_18, r134_21, r134_22, r134_23, r134_26, r134_27, r134_29, r134_30, r134_33_T, r134_33_F, r134_33, r134_36, r134_37, r134_38, r134_39, r134_42, r134_43, r134_44, r134_47, r134_48, r134_49, r134_50, r134_51, r134_52, r134_55, r134_56, r134_57, r134_60, r134_61, r134_62, r134_65, r134_68, r134_69, r134_70, r134_73, r134_75, r134_76, r134_79, r134_80, r134_81, r134_84, r134_87, r134_88, r134_91, r134_93, r134_95, r134_96, r134_100, r134_101, r134_104_T, r134_104_F, r134_104, r134_107, r134_108, r134_109, r134_112, r134_114, r134_115, r134_118, r134_120, r134_121, r134_124, r134_126, r134_127, r134_130, r134_132, r134_135, r134_138, r134_139, r134_141, r134_143, r134_144, r134_147, r134_148, r134_150, r134_153, r134_154, r134_157, r134_160, r134_164, r134_167, r134_168, r134_169, r134_172, r134_173, r134_174, r134_175, xAf_none, xAf_some, xu_app, Nat.reduceAdd, Nat.reduceSub, Nat.reduceEqDiff, Nat.reduceMul, reduceIte, and_self, and_true, true_and, and_false, false_and, true_implies, false_implies, implies_true, not_true_eq_false, not_false_eq_true, Int.reduceToNat, Int.reducePow, Int.reduceNeg, Int.reduceLT, Int.reduceLE, Int.reduceAdd, Int.reduceSub, Int.reduceMul, Int.reduceDiv, Int.reduceMod, Int.reduceEq, xA_1, xA_15, xA_255, xA_511, xA_65535, xA_32768]
  have hB1 : xK (xu (xu f 21 20 w) 21 21 h) a1 B := ⟨hB.1, by rw [k1 32 (by decide)]; exact hB.2⟩
  have hl2 := slsL_len (md := md) (V := vS (a 23) fr pn) hs w0 w1 (by omega : 0 ≤ h) h1 p0 p1 sl.toNat 0 (by omega) (by omega)
  refine l_ms (V := vS (a 23) fr pn) hmd hs w0 w1 h0 h1 p0 p1 (by omega) sl.toNat _ a1 B 0 _ _ (by omega) (by omega) hB1 (by omega) hm hsl rfl rfl hpn (k3 w 0 h w1 (by omega) h1) k2 fun f2 a2 m3 m4 m5 B2 V2 q1 q2 q3 => ?_
  have e37 := B2.1
  have e37' : f 21 37 = (B.length : Int) := hB.1
  rw [List.length_append] at e37
  simp (config := {contextual := true, maxSteps := 1000000}) (disch := omega) only [r134_0, r134_1, r134_4, r134_5, r134_6, r134_7, r134_10, r134_13, r134_14, r134_15, r134_18, r134_21, r134_22, r134_23, r134_26, r134_27, r134_29, r134_30, r134_33_T, r134_33_F, r134_33, r134_36, r134_37, r134_38, r134_39, r134_42, r134_43, r134_44, r134_47, r134_48, r134_49, r134_50, r134_51, r134_52, r134_55, r134_56, r134_57, r134_60, r134_61, r134_62, r134_65, r134_68, r134_69, r134_70, r134_73, r134_75, r134_76, r134_79, r134_80, r134_81, r134_84, r134_87, r134_88, r134_91, r134_93, r134_95, r134_96, r134_100, r134_101, r134_104_T, r134_104_F, r134_104, r134_107, r134_108, r134_109, r134_112, r134_114, r134_115, r134_118, r134_120, r134_121, r134_124, r134_126, r134_127, r134_130, r134_132, r134_135, r134_138, r134_139, r134_141, r134_143, r134_144, r134_147, r134_148, r134_150, r134_153, r134_154, r134_157, r134_160, r134_163, r134_164, r134_167, r134_168, r134_169, r134_172, r134_173, r134_174, r134_175, e37, e37', xAf_none, xAf_some, xu_app, Nat.reduceAdd, Nat.reduceSub, Nat.reduceEqDiff, Nat.reduceMul, reduceIte, and_self, and_true, true_and, and_false, false_and, true_implies, false_implies, implies_true, not_true_eq_false, not_false_eq_true, Int.reduceToNat, Int.reducePow, Int.reduceNeg, Int.reduceLT, Int.reduceLE, Int.reduceAdd, Int.reduceSub, Int.reduceMul, Int.reduceDiv, Int.reduceMod, Int.reduceEq, xA_1, xA_15, xA_255, xA_511, xA_65535, xA_32768]
  refine hk _ _ ⟨B2.1, B2.2⟩ ?_ (fun j hj => ?_) (fun j => ?_) ⟨fun i hi => ?_, fun k hk => ?_, fun i hi => ?_⟩
  · rw [xw_app, if_pos ⟨rfl, rfl⟩]; omega
  · rw [xw_app, if_neg (by omega), q3 33 (by omega), k1 33 (by decide)]
  · show -1000 ≤ a2 27 j ∧ a2 27 j ≤ 1000
    rw [V2]; exact k2 j
  · rw [q1 i hi, xu_ne _ hi, xu_ne _ hi]
  · rw [q2 k (by omega), xu_app, if_neg (by omega), xu_app, if_neg (by omega)]
  · rw [xw_ne _ (by omega), q3 i (by omega), k1 i (by omega)]
end S59
