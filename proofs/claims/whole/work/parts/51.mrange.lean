/-! THE MODEL: mode 1 -/
/-- the model's coder of ranges -/
def xM1 (f : Nat → Nat → Int) (a : Nat → Int → Int) (σ : rS) : Prop :=
  f 21 29 = σ.2.2.2 ∧ f 21 31 = σ.2.1 ∧ (∀ j : Nat, j < σ.2.2.2 → a 31 (j : Int) = (dg σ.2.2.1 σ.2.2.2).getD j 0) ∧ (∀ j, 0 ≤ j → j < 2394 → a 30 j = σ.1 j) ∧ 2 ≤ σ.2.2.2 ∧ rI σ
section S51
variable {d : Nat} {Q : xm_H × Outcome → Prop} {g : xG} {e b v c p av : Int}
theorem l_madd {f : Nat → Nat → Int} {n : Nat} (hn : f 21 29 = n) (hn1 : n ≤ 1400) (i : Nat) : ∀ (a : Nat → Int → Int) (Y u : Int) (w : Value), i + 2 ≤ n → (∀ j : Nat, j < i → a 31 (j : Int) = (dg Y i).getD j 0) → a 31 (i : Int) = u → 0 ≤ Y → 0 ≤ u → u ≤ 70000 → 256 * Y + u < 256 ^ (i + 1) →
    (∀ a', (∀ j : Nat, j < i + 1 → a' 31 (j : Int) = (dg (256 * Y + u) (i + 1)).getD j 0) → (∀ j, (i : Int) < j → a' 31 j = a 31 j) → (∀ c, c ≠ 31 → a' c = a c) → Q (hh f a' g, .returned none)) →
    xT d 110 62 [.ref 21, .int (xI v), .int (xI (i : Int)), w] [] (hh f a g) Q := by
  induction i with
  | zero =>
    intro a Y u w hi ha hu Y0 u0 u1 hX hk
    rw [r110_62]
    simp (config := {contextual := true, maxSteps := 1000000}) (disch := omega) only [r110_0, r110_1, r110_4, r110_5, r110_8, r110_9, r110_10, r110_11, r110_14, r110_15, r110_18, r110_19, r110_20, r110_21, r110_22, r110_25, r110_26, r110_27, r110_28, r110_29, r110_32, r110_33, r110_36, r110_37, r110_38, r110_39, r110_42, r110_43, r110_46, r110_47, r110_48, r110_49, r110_50, r110_52, r110_53, r110_54, r110_55, r110_56, r110_59, r110_60, r110_61, r110_63_T, r110_63_F, r110_63, r110_66, r110_67, r110_68, r110_71, r110_72, r110_73_T, r110_73_F, r110_73, r110_76, r110_77, r110_80, r110_81, r110_82, r110_85_T, r110_85_F, r110_85, r110_88, r110_89, r110_92, r110_93, r110_94, r110_96, r110_97, r110_98, r110_99, r110_102, r110_103, r110_104, r110_107, r110_108, r110_109, r110_112, r110_113, r110_114, r110_115, r110_118, r110_119, r110_120, r110_121, r110_122, r110_125, r110_126, r110_127, r110_128, r110_129, r110_130, r110_131, r110_132, r110_135, r110_138, xAf_none, xAf_some, xu_app, Nat.reduceAdd, Nat.reduceSub, Nat.reduceEqDiff, Nat.reduceMul, reduceIte, and_self, and_true, true_and, and_false, false_and, true_implies, false_implies, implies_true, not_true_eq_false, not_false_eq_true, Int.reduceToNat, Int.reducePow, Int.reduceNeg, Int.reduceLT, Int.reduceLE, Int.reduceAdd, Int.reduceSub, Int.reduceMul, Int.reduceDiv, Int.reduceMod, Int.reduceEq, xA_1, xA_15, xA_255, xA_511, xA_65535, xA_32768]
    have hY : Y = 0 := by omega
    subst hY
    refine hk a (fun j hj => ?_) (fun _ _ => rfl) (fun _ _ => rfl)
    have : j = 0 := by omega
    subst this
    rw [show (256 : Int) * 0 + u = 256 * 0 + u by rfl, dg_push _ _ _ u0 (by omega)]
    exact hu
  | succ i ih =>
    intro a Y u w hi ha hu Y0 u0 u1 hX hk
    rw [r110_62]
    have hlast : a 31 (i : Int) = Y % 256 := by
      rw [ha i (by omega)]
      show (dg (Y / 256) i ++ [Y % 256]).getD i 0 = _
      have := getD_last (B := dg (Y / 256) i) (v := Y % 256); rw [dg_len] at this; exact this
    have e1 : ((i + 1 : Nat) : Int) - 1 = i := by omega
    have e2 : ((i + 1 : Nat) : Int) + -1 = i := by omega
    have hne : ¬ (i : Int) = ((i + 1 : Nat) : Int) := by omega
    have hdv : (256 * Y + u) / 256 = Y + u / 256 := by omega
    have hstop : u ≤ 255 → Q (hh f a g, .returned none) := fun hu255 => by
      refine hk a (fun j hj => ?_) (fun _ _ => rfl) (fun _ _ => rfl)
      rw [dg_push _ _ _ u0 (by omega)]
      by_cases hj' : j = i + 1
      · subst hj'; rw [hu]
        have := getD_last (B := dg Y (i + 1)) (v := u); rw [dg_len] at this; exact this.symm
      · rw [getD_snoc (by rw [dg_len]; omega)]; exact ha j (by omega)
    have hgo : ∀ w, xT d 110 62 [.ref 21, .int (xI v), .int (xI (i : Int)), w] [] (hh f (xw (xw a 31 ((i + 1 : Nat) : Int) (u % 256)) 31 (i : Int) (Y % 256 + u / 256)) g) Q := fun w => by
      refine ih _ (Y / 256) (Y % 256 + u / 256) w (by omega) (fun j hj => ?_) ?_ (by omega) (by omega) (by omega) ?_ fun a' k1 k2 k3 => ?_
      · rw [xw_app, if_neg (by omega), xw_app, if_neg (by omega), ha j (by omega)]
        show (dg (Y / 256) i ++ [Y % 256]).getD j 0 = _
        rw [getD_snoc (by rw [dg_len]; omega)]
      · rw [xw_app, if_pos ⟨rfl, rfl⟩]
      · rw [show 256 * (Y / 256) + (Y % 256 + u / 256) = (256 * Y + u) / 256 by omega]
        rw [Int.pow_succ] at hX
        exact Int.ediv_lt_of_lt_mul (by omega) hX
      · refine hk a' (fun j hj => ?_) (fun j hj => ?_) (fun c hc => by rw [k3 c hc, xw_ne _ hc, xw_ne _ hc])
        · show _ = (dg ((256 * Y + u) / 256) (i + 1) ++ [(256 * Y + u) % 256]).getD j 0
          by_cases hj' : j = i + 1
          · subst hj'
            rw [k2 _ (by omega), xw_app, if_neg (by omega), xw_app, if_pos ⟨rfl, rfl⟩]
            have := getD_last (B := dg ((256 * Y + u) / 256) (i + 1)) (v := (256 * Y + u) % 256); rw [dg_len] at this; rw [this]; omega
          · rw [getD_snoc (by rw [dg_len]; omega), k1 j (by omega), show 256 * (Y / 256) + (Y % 256 + u / 256) = (256 * Y + u) / 256 by omega]
        · rw [k2 j (by omega), xw_app, if_neg (by omega), xw_app, if_neg (by omega)]
    by_cases hf : (n : Int) - 3 < ((i + 1 : Nat) : Int)
    · simp (config := {contextual := true, maxSteps := 1000000}) (disch := omega) only [r110_0, r110_1, r110_4, r110_5, r110_8, r110_9, r110_10, r110_11, r110_14, r110_15, r110_18, r110_19, r110_20, r110_21, r110_22, r110_25, r110_26, r110_27, r110_28, r110_29, r110_32, r110_33, r110_36, r110_37, r110_38, r110_39, r110_42, r110_43, r110_46, r110_47, r110_48, r110_49, r110_50, r110_52, r110_53, r110_54, r110_55, r110_56, r110_59, r110_60, r110_61, r110_63_T, r110_63_F, r110_63, r110_66, r110_67, r110_68, r110_71, r110_72, r110_73_T, r110_73_F, r110_73, r110_76, r110_77, r110_80, r110_81, r110_82, r110_85_T, r110_85_F, r110_85, r110_88, r110_89, r110_92, r110_93, r110_94, r110_96, r110_97, r110_98, r110_99, r110_102, r110_103, r110_104, r110_107, r110_108, r110_109, r110_112, r110_113, r110_114, r110_115, r110_118, r110_119, r110_120, r110_121, r110_122, r110_125, r110_126, r110_127, r110_128, r110_129, r110_130, r110_131, r110_132, r110_135, r110_138, hn, hu, e1, e2, xw_app, hne, hlast, xAf_none, xAf_some, xu_app, Nat.reduceAdd, Nat.reduceSub, Nat.reduceEqDiff, Nat.reduceMul, reduceIte, and_self, and_true, true_and, and_false, false_and, true_implies, false_implies, implies_true, not_true_eq_false, not_false_eq_true, Int.reduceToNat, Int.reducePow, Int.reduceNeg, Int.reduceLT, Int.reduceLE, Int.reduceAdd, Int.reduceSub, Int.reduceMul, Int.reduceDiv, Int.reduceMod, Int.reduceEq, xA_1, xA_15, xA_255, xA_511, xA_65535, xA_32768]
      exact hgo _
    · by_cases hbig : 255 < u
      · simp (config := {contextual := true, maxSteps := 1000000}) (disch := omega) only [r110_0, r110_1, r110_4, r110_5, r110_8, r110_9, r110_10, r110_11, r110_14, r110_15, r110_18, r110_19, r110_20, r110_21, r110_22, r110_25, r110_26, r110_27, r110_28, r110_29, r110_32, r110_33, r110_36, r110_37, r110_38, r110_39, r110_42, r110_43, r110_46, r110_47, r110_48, r110_49, r110_50, r110_52, r110_53, r110_54, r110_55, r110_56, r110_59, r110_60, r110_61, r110_63_T, r110_63_F, r110_63, r110_66, r110_67, r110_68, r110_71, r110_72, r110_73_T, r110_73_F, r110_73, r110_76, r110_77, r110_80, r110_81, r110_82, r110_85_T, r110_85_F, r110_85, r110_88, r110_89, r110_92, r110_93, r110_94, r110_96, r110_97, r110_98, r110_99, r110_102, r110_103, r110_104, r110_107, r110_108, r110_109, r110_112, r110_113, r110_114, r110_115, r110_118, r110_119, r110_120, r110_121, r110_122, r110_125, r110_126, r110_127, r110_128, r110_129, r110_130, r110_131, r110_132, r110_135, r110_138, hn, hu, e1, e2, xw_app, hne, hlast, xAf_none, xAf_some, xu_app, Nat.reduceAdd, Nat.reduceSub, Nat.reduceEqDiff, Nat.reduceMul, reduceIte, and_self, and_true, true_and, and_false, false_and, true_implies, false_implies, implies_true, not_true_eq_false, not_false_eq_true, Int.reduceToNat, Int.reducePow, Int.reduceNeg, Int.reduceLT, Int.reduceLE, Int.reduceAdd, Int.reduceSub, Int.reduceMul, Int.reduceDiv, Int.reduceMod, Int.reduceEq, xA_1, xA_15, xA_255, xA_511, xA_65535, xA_32768]
        exact hgo _
      · simp (config := {contextual := true, maxSteps := 1000000}) (disch := omega) only [r110_0, r110_1, r110_4, r110_5, r110_8, r110_9, r110_10, r110_11, r110_14, r110_15, r110_18, r110_19, r110_20, r110_21, r110_22, r110_25, r110_26, r110_27, r110_28, r110_29, r110_32, r110_33, r110_36, r110_37, r110_38, r110_39, r110_42, r110_43, r110_46, r110_47, r110_48, r110_49, r110_50, r110_52, r110_53, r110_54, r110_55, r110_56, r110_59, r110_60, r110_61, r110_63_T, r110_63_F, r110_63, r110_66, r110_67, r110_68, r110_71, r110_72, r110_73_T, r110_73_F, r110_73, r110_76, r110_77, r110_80, r110_81, r110_82, r110_85_T, r110_85_F, r110_85, r110_88, r110_89, r110_92, r110_93, r110_94, r110_96, r110_97, r110_98, r110_99, r110_102, r110_103, r110_104, r110_107, r110_108, r110_109, r110_112, r110_113, r110_114, r110_115, r110_118, r110_119, r110_120, r110_121, r110_122, r110_125, r110_126, r110_127, r110_128, r110_129, r110_130, r110_131, r110_132, r110_135, r110_138, hn, hu, xAf_none, xAf_some, xu_app, Nat.reduceAdd, Nat.reduceSub, Nat.reduceEqDiff, Nat.reduceMul, reduceIte, and_self, and_true, true_and, and_false, false_and, true_implies, false_implies, implies_true, not_true_eq_false, not_false_eq_true, Int.reduceToNat, Int.reducePow, Int.reduceNeg, Int.reduceLT, Int.reduceLE, Int.reduceAdd, Int.reduceSub, Int.reduceMul, Int.reduceDiv, Int.reduceMod, Int.reduceEq, xA_1, xA_15, xA_255, xA_511, xA_65535, xA_32768]
        exact hstop (by omega)
variable {f : Nat → Nat → Int} {a : Nat → Int → Int} {σ : rS}
set_option maxRecDepth 100000 in
theorem p_madd {n : Nat} {X : Int} (hn : f 21 29 = n) (hn0 : 2 ≤ n) (hn1 : n ≤ 1400) (hD : ∀ j : Nat, j < n → a 31 (j : Int) = (dg X n).getD j 0) (X0 : 0 ≤ X) (v0 : 0 ≤ v) (v1 : v ≤ 65535) (hX : X + v < 256 ^ n) (hk : ∀ a', (∀ j : Nat, j < n → a' 31 (j : Int) = (dg (X + v) n).getD j 0) → (∀ c, c ≠ 31 → a' c = a c) → Q (hh f a' g, .returned none)) : xTC d 110 [.ref 21, .int (xI v)] (hh f a g) Q := by
  obtain ⟨m, rfl⟩ : ∃ m, n = m + 2 := ⟨n - 2, by omega⟩
  have l1 : a 31 ((m : Int) + 1) = X % 256 := by
    rw [show (m : Int) + 1 = ((m + 1 : Nat) : Int) by omega, hD (m + 1) (by omega)]
    show (dg (X / 256) (m + 1) ++ [X % 256]).getD (m + 1) 0 = _
    have := getD_last (B := dg (X / 256) (m + 1)) (v := X % 256); rw [dg_len] at this; exact this
  have l2 : a 31 (m : Int) = X / 256 % 256 := by
    rw [hD m (by omega)]
    show (dg (X / 256) (m + 1) ++ [X % 256]).getD m 0 = _
    rw [getD_snoc (by rw [dg_len]; omega)]
    show (dg (X / 256 / 256) m ++ [X / 256 % 256]).getD m 0 = _
    have := getD_last (B := dg (X / 256 / 256) m) (v := X / 256 % 256); rw [dg_len] at this; exact this
  have e1 : ((m + 2 : Nat) : Int) - 1 = (m : Int) + 1 := by omega
  have e2 : ((m + 2 : Nat) : Int) - 2 = (m : Int) := by omega
  have e3 : ((m + 2 : Nat) : Int) - 3 = (m : Int) - 1 := by omega
  have e4 : (m : Int) + 1 - 1 = m := by omega
  have e5 : (m : Int) + 1 + -1 = m := by omega
  have n1 : ¬ (m : Int) = (m : Int) + 1 := by omega
  have n2 : ¬ (m : Int) + 1 = (m : Int) := by omega
  rw [e110]
  simp (config := {contextual := true, maxSteps := 1000000}) (disch := omega) only [r110_0, r110_1, r110_4, r110_5, r110_8, r110_9, r110_10, r110_11, r110_14, r110_15, r110_18, r110_19, r110_20, r110_21, r110_22, r110_25, r110_26, r110_27, r110_28, r110_29, r110_32, r110_33, r110_36, r110_37, r110_38, r110_39, r110_42, r110_43, r110_46, r110_47, r110_48, r110_49, r110_50, r110_52, r110_53, r110_54, r110_55, r110_56, r110_59, r110_60, r110_61, r110_63_T, r110_63_F, r110_63, r110_66, r110_67, r110_68, r110_71, r110_72, r110_73_T, r110_73_F, r110_73, r110_76, r110_77, r110_80, r110_81, r110_82, r110_85_T, r110_85_F, r110_85, r110_88, r110_89, r110_92, r110_93, r110_94, r110_96, r110_97, r110_98, r110_99, r110_102, r110_103, r110_104, r110_107, r110_108, r110_109, r110_112, r110_113, r110_114, r110_115, r110_118, r110_119, r110_120, r110_121, r110_122, r110_125, r110_126, r110_127, r110_128, r110_129, r110_130, r110_131, r110_132, r110_135, r110_138, hn, e1, e2, l1, l2, xw_app, n1, n2, xAf_none, xAf_some, xu_app, Nat.reduceAdd, Nat.reduceSub, Nat.reduceEqDiff, Nat.reduceMul, reduceIte, and_self, and_true, true_and, and_false, false_and, true_implies, false_implies, implies_true, not_true_eq_false, not_false_eq_true, Int.reduceToNat, Int.reducePow, Int.reduceNeg, Int.reduceLT, Int.reduceLE, Int.reduceAdd, Int.reduceSub, Int.reduceMul, Int.reduceDiv, Int.reduceMod, Int.reduceEq, xA_1, xA_15, xA_255, xA_511, xA_65535, xA_32768]
  rw [r110_62]
  simp (config := {contextual := true, maxSteps := 1000000}) (disch := omega) only [r110_0, r110_1, r110_4, r110_5, r110_8, r110_9, r110_10, r110_11, r110_14, r110_15, r110_18, r110_19, r110_20, r110_21, r110_22, r110_25, r110_26, r110_27, r110_28, r110_29, r110_32, r110_33, r110_36, r110_37, r110_38, r110_39, r110_42, r110_43, r110_46, r110_47, r110_48, r110_49, r110_50, r110_52, r110_53, r110_54, r110_55, r110_56, r110_59, r110_60, r110_61, r110_63_T, r110_63_F, r110_63, r110_66, r110_67, r110_68, r110_71, r110_72, r110_73_T, r110_73_F, r110_73, r110_76, r110_77, r110_80, r110_81, r110_82, r110_85_T, r110_85_F, r110_85, r110_88, r110_89, r110_92, r110_93, r110_94, r110_96, r110_97, r110_98, r110_99, r110_102, r110_103, r110_104, r110_107, r110_108, r110_109, r110_112, r110_113, r110_114, r110_115, r110_118, r110_119, r110_120, r110_121, r110_122, r110_125, r110_126, r110_127, r110_128, r110_129, r110_130, r110_131, r110_132, r110_135, r110_138, hn, e1, e2, e3, e4, e5, l1, l2, xw_app, n1, n2, xAf_none, xAf_some, xu_app, Nat.reduceAdd, Nat.reduceSub, Nat.reduceEqDiff, Nat.reduceMul, reduceIte, and_self, and_true, true_and, and_false, false_and, true_implies, false_implies, implies_true, not_true_eq_false, not_false_eq_true, Int.reduceToNat, Int.reducePow, Int.reduceNeg, Int.reduceLT, Int.reduceLE, Int.reduceAdd, Int.reduceSub, Int.reduceMul, Int.reduceDiv, Int.reduceMod, Int.reduceEq, xA_1, xA_15, xA_255, xA_511, xA_65535, xA_32768]
  refine l_madd hn hn1 m _ (X / 65536) (X / 256 % 256 + v / 256 + (X % 256 + v % 256) / 256) _ (by omega) (fun j hj => ?_) ?_ (by omega) (by omega) (by omega) ?_ fun a' k1 k2 k3 => ?_
  · simp only [xw_app]
    rw [if_neg (by omega), if_neg (by omega), if_neg (by omega), if_neg (by omega), hD j (by omega)]
    show (dg (X / 256) (m + 1) ++ [X % 256]).getD j 0 = _
    rw [getD_snoc (by rw [dg_len]; omega)]
    show (dg (X / 256 / 256) m ++ [X / 256 % 256]).getD j 0 = _
    rw [getD_snoc (by rw [dg_len]; omega), show X / 256 / 256 = X / 65536 by omega]
  · simp only [xw_app]
    rw [if_pos ⟨trivial, trivial⟩]
  · rw [show 256 * (X / 65536) + (X / 256 % 256 + v / 256 + (X % 256 + v % 256) / 256) = (X + v) / 256 by omega]
    rw [show m + 2 = (m + 1) + 1 by omega, Int.pow_succ] at hX
    exact Int.ediv_lt_of_lt_mul (by omega) hX
  · refine hk a' (fun j hj => ?_) (fun c hc => by rw [k3 c hc, xw_ne _ hc, xw_ne _ hc, xw_ne _ hc, xw_ne _ hc])
    show _ = (dg ((X + v) / 256) (m + 1) ++ [(X + v) % 256]).getD j 0
    by_cases hj' : j = m + 1
    · subst hj'
      rw [k2 _ (by omega)]
      simp only [xw_app]
      rw [if_neg (by omega), if_pos ⟨trivial, by omega⟩]
      have := getD_last (B := dg ((X + v) / 256) (m + 1)) (v := (X + v) % 256); rw [dg_len] at this; rw [this]; omega
    · rw [getD_snoc (by rw [dg_len]; omega), k1 j (by omega), show 256 * (X / 65536) + (X / 256 % 256 + v / 256 + (X % 256 + v % 256) / 256) = (X + v) / 256 by omega]
set_option maxRecDepth 100000 in
theorem p_mcodeBit (hM : xM1 f a σ) (hcx : f 21 26 = c) (c0 : 0 ≤ c) (c1 : c < 126) (p0 : 0 ≤ p) (p1 : p < 19) (hb : b = 0 ∨ b = 1) (hn : σ.2.2.2 + 1 ≤ 1400) (hd : 2 ≤ d) (hk : ∀ f' a', xM1 f' a' (rb σ (c * 19 + p) b) → xFe f a f' a' → Q (hh f' a' g, .returned none)) : xTC d 113 [.ref 21, .int (xI p), .int (xI b)] (hh f a g) Q := by
  have hI' := rb_I hM.2.2.2.2.2 (c * 19 + p) b
  have hH := rH_bd hM.2.2.2.2.2 (c * 19 + p)
  obtain ⟨T, R, X, n⟩ := σ
  obtain ⟨h29, h31, hD, hT, hn2, hI⟩ := hM
  obtain ⟨x, hx⟩ : ∃ x, c * 19 + p = x := ⟨_, rfl⟩
  rw [hx] at hk hI' hH
  have hx' : 19 * c + p = x := by omega
  have x0 : 0 ≤ x := by omega
  have x1 : x < 2394 := by omega
  have hs := hI.2.2.1 x
  have hTx := hT x x0 x1
  obtain ⟨hr1, hr2, -, hX0, hXn⟩ := hI
  dsimp only at h29 h31 hD hTx hr1 hr2 hX0 hXn hs hT hn2 hn
  have hmul : R * T x ≤ 65280 * 241 := Int.mul_le_mul hr2 hs.2 (by omega) (by omega)
  have hmul0 : 0 ≤ R * T x := Int.mul_nonneg (by omega) (by omega)
  unfold rb at hk hI'
  simp only [show rH (T, R, X, n) x = R * T x / 256 from rfl] at hk hI' hH
  obtain ⟨H, eH⟩ : ∃ H, R * T x / 256 = H := ⟨_, rfl⟩
  rw [eH] at hk hI' hH
  have hTset : ∀ (a1 : Nat → Int → Int) (v : Int) (j : Int), a1 30 = a 30 → 0 ≤ j → j < 2394 → xw a1 30 x v 30 j = vset T x v j := fun a1 v j h1 j0 j1 => by
    rw [xw_app, h1]; unfold vset
    by_cases hj : j = x
    · simp [hj]
    · simp [hj, hT j j0 j1]
  rw [e113]
  have hback : ∀ (f1 : Nat → Nat → Int) (a1 : Nat → Int → Int) (X1 R1 v : Int) (l : Value), f1 21 29 = n → f1 21 31 = R1 → (∀ i, i ≠ 21 → f1 i = f i) → (∀ k, k ≠ 31 → f1 21 k = f 21 k) → (∀ j : Nat, j < n → a1 31 (j : Int) = (dg X1 n).getD j 0) → a1 30 = a 30 → (∀ i, i ≠ 31 → a1 i = a i) → 15 ≤ R1 → R1 ≤ 65280 →
      (∀ f' a', xM1 f' a' (if R1 < 256 then (vset T x v, R1 * 256, X1 * 256, n + 1) else (vset T x v, R1, X1, n)) → xFe f a f' a' → Q (hh f' a' g, .returned none)) → rI (if R1 < 256 then (vset T x v, R1 * 256, X1 * 256, n + 1) else (vset T x v, R1, X1, n)) →
      xT d 113 45 [.ref 21, .int (xI p), .int (xI b), l] [] (hh f1 (xw a1 30 x v) g) Q := fun f1 a1 X1 R1 v l g29 g31 gf gf2 gD g30 ga r0 r1 hk1 hI1 => by
    rw [r113_45]
    by_cases hc : R1 < 256
    · rw [if_pos hc] at hk1 hI1
      simp (config := {contextual := true, maxSteps := 1000000}) (disch := omega) only [r113_0, r113_1, r113_2, r113_5, r113_6, r113_7, r113_8_T, r113_8_F, r113_8, r113_11, r113_12, r113_13, r113_16, r113_17, r113_18, r113_21, r113_22, r113_23, r113_26, r113_29, r113_30, r113_31, r113_34, r113_35, r113_36, r113_39, r113_40, r113_41, r113_42, r113_46, r113_49, r113_52_T, r113_52_F, r113_52, r113_55, r113_56, r113_57, r113_60, r113_63, r113_64, r113_67, r113_68, r113_71, r113_72, r113_75, r113_76, r113_77, r113_78, r113_79, r113_82, r113_83, r113_84, r113_87, r113_90, g31, g29, xAf_none, xAf_some, xu_app, Nat.reduceAdd, Nat.reduceSub, Nat.reduceEqDiff, Nat.reduceMul, reduceIte, and_self, and_true, true_and, and_false, false_and, true_implies, false_implies, implies_true, not_true_eq_false, not_false_eq_true, Int.reduceToNat, Int.reducePow, Int.reduceNeg, Int.reduceLT, Int.reduceLE, Int.reduceAdd, Int.reduceSub, Int.reduceMul, Int.reduceDiv, Int.reduceMod, Int.reduceEq, xA_1, xA_15, xA_255, xA_511, xA_65535, xA_32768]
      rw [r113_45]
      simp (config := {contextual := true, maxSteps := 1000000}) (disch := omega) only [r113_0, r113_1, r113_2, r113_5, r113_6, r113_7, r113_8_T, r113_8_F, r113_8, r113_11, r113_12, r113_13, r113_16, r113_17, r113_18, r113_21, r113_22, r113_23, r113_26, r113_29, r113_30, r113_31, r113_34, r113_35, r113_36, r113_39, r113_40, r113_41, r113_42, r113_46, r113_49, r113_52_T, r113_52_F, r113_52, r113_55, r113_56, r113_57, r113_60, r113_63, r113_64, r113_67, r113_68, r113_71, r113_72, r113_75, r113_76, r113_77, r113_78, r113_79, r113_82, r113_83, r113_84, r113_87, r113_90, xAf_none, xAf_some, xu_app, Nat.reduceAdd, Nat.reduceSub, Nat.reduceEqDiff, Nat.reduceMul, reduceIte, and_self, and_true, true_and, and_false, false_and, true_implies, false_implies, implies_true, not_true_eq_false, not_false_eq_true, Int.reduceToNat, Int.reducePow, Int.reduceNeg, Int.reduceLT, Int.reduceLE, Int.reduceAdd, Int.reduceSub, Int.reduceMul, Int.reduceDiv, Int.reduceMod, Int.reduceEq, xA_1, xA_15, xA_255, xA_511, xA_65535, xA_32768]
      refine hk1 _ _ ⟨?_, ?_, fun j hj => ?_, fun j j0 j1 => ?_, by dsimp only; omega, hI1⟩ ⟨fun i hi => ?_, fun k k1 k2 k3 k4 k5 k6 => ?_, fun i i1 i2 i3 i4 => ?_⟩
      · rw [xu_app, if_pos ⟨rfl, rfl⟩]; rfl
      · rw [xu_app, if_neg (by omega), xu_app, if_pos ⟨rfl, rfl⟩]
      · dsimp only at hj ⊢
        rw [show X1 * 256 = 256 * X1 + 0 by omega, dg_push _ _ _ (by omega) (by omega), xw_app]
        by_cases hjn : j = n
        · subst hjn; rw [if_pos ⟨rfl, rfl⟩]
          have := getD_last (B := dg X1 j) (v := 0); rw [dg_len] at this; exact this.symm
        · rw [if_neg (by omega), xw_app, if_neg (by omega), getD_snoc (by rw [dg_len]; omega)]; exact gD j (by omega)
      · rw [xw_app, if_neg (by omega)]; exact hTset a1 v j g30 j0 j1
      · rw [xu_ne _ hi, xu_ne _ hi]; exact gf i hi
      · rw [xu_app, if_neg (by omega), xu_app, if_neg (by omega)]; exact gf2 k k3
      · rw [xw_ne _ i4, xw_ne _ i3]; exact ga i i4
    · rw [if_neg hc] at hk1 hI1
      simp (config := {contextual := true, maxSteps := 1000000}) (disch := omega) only [r113_0, r113_1, r113_2, r113_5, r113_6, r113_7, r113_8_T, r113_8_F, r113_8, r113_11, r113_12, r113_13, r113_16, r113_17, r113_18, r113_21, r113_22, r113_23, r113_26, r113_29, r113_30, r113_31, r113_34, r113_35, r113_36, r113_39, r113_40, r113_41, r113_42, r113_46, r113_49, r113_52_T, r113_52_F, r113_52, r113_55, r113_56, r113_57, r113_60, r113_63, r113_64, r113_67, r113_68, r113_71, r113_72, r113_75, r113_76, r113_77, r113_78, r113_79, r113_82, r113_83, r113_84, r113_87, r113_90, g31, xAf_none, xAf_some, xu_app, Nat.reduceAdd, Nat.reduceSub, Nat.reduceEqDiff, Nat.reduceMul, reduceIte, and_self, and_true, true_and, and_false, false_and, true_implies, false_implies, implies_true, not_true_eq_false, not_false_eq_true, Int.reduceToNat, Int.reducePow, Int.reduceNeg, Int.reduceLT, Int.reduceLE, Int.reduceAdd, Int.reduceSub, Int.reduceMul, Int.reduceDiv, Int.reduceMod, Int.reduceEq, xA_1, xA_15, xA_255, xA_511, xA_65535, xA_32768]
      refine hk1 _ _ ⟨g29, g31, fun j hj => ?_, fun j j0 j1 => hTset a1 v j g30 j0 j1, hn2, hI1⟩ ⟨gf, fun k k1 k2 k3 k4 k5 k6 => gf2 k k3, fun i i1 i2 i3 i4 => ?_⟩
      · rw [xw_app, if_neg (by omega)]; exact gD j hj
      · rw [xw_ne _ i3]; exact ga i i4
  rcases hb with rfl | rfl
  · simp only [show ¬ (0 : Int) = 1 by omega, if_false] at hk hI'
    simp (config := {contextual := true, maxSteps := 1000000}) (disch := omega) only [r113_0, r113_1, r113_2, r113_5, r113_6, r113_7, r113_8_T, r113_8_F, r113_8, r113_11, r113_12, r113_13, r113_16, r113_17, r113_18, r113_21, r113_22, r113_23, r113_26, r113_29, r113_30, r113_31, r113_34, r113_35, r113_36, r113_39, r113_40, r113_41, r113_42, r113_46, r113_49, r113_52_T, r113_52_F, r113_52, r113_55, r113_56, r113_57, r113_60, r113_63, r113_64, r113_67, r113_68, r113_71, r113_72, r113_75, r113_76, r113_77, r113_78, r113_79, r113_82, r113_83, r113_84, r113_87, r113_90, r112_0, r112_1, r112_4, r112_5, r112_8, r112_10, r112_11, r112_14, r112_15, r112_16, r112_17, r112_18, r112_19, r112_21, r112_22, e112, r111_0, r111_2, r111_3, r111_6, r111_7, r111_8, r111_9, r111_10, r111_11, r111_14, r111_15, r111_16, r111_18, r111_19, r111_22, r111_23, r111_24, r111_25_T, r111_25_F, r111_25, r111_28, r111_30, r111_33, r111_35, r111_36, r111_37, r111_38, r111_39, r111_42, r111_44, r111_46, r111_47, r111_48, r111_49, r111_50, e111, h31, hcx, hx', hTx, eH, xAf_none, xAf_some, xu_app, Nat.reduceAdd, Nat.reduceSub, Nat.reduceEqDiff, Nat.reduceMul, reduceIte, and_self, and_true, true_and, and_false, false_and, true_implies, false_implies, implies_true, not_true_eq_false, not_false_eq_true, Int.reduceToNat, Int.reducePow, Int.reduceNeg, Int.reduceLT, Int.reduceLE, Int.reduceAdd, Int.reduceSub, Int.reduceMul, Int.reduceDiv, Int.reduceMod, Int.reduceEq, xA_1, xA_15, xA_255, xA_511, xA_65535, xA_32768]
    exact hback _ a X (R - H) _ _ h29 rfl (fun i hi => xu_ne _ hi) (fun k hk => by rw [xu_app, if_neg (by omega)]) hD rfl (fun _ _ => rfl) (by omega) (by omega) hk hI'
  · simp only [if_true] at hk hI'
    simp (config := {contextual := true, maxSteps := 1000000}) (disch := omega) only [r113_0, r113_1, r113_2, r113_5, r113_6, r113_7, r113_8_T, r113_8_F, r113_8, r113_11, r113_12, r113_13, r113_16, r113_17, r113_18, r113_21, r113_22, r113_23, r113_26, r113_29, r113_30, r113_31, r113_34, r113_35, r113_36, r113_39, r113_40, r113_41, r113_42, r113_46, r113_49, r113_52_T, r113_52_F, r113_52, r113_55, r113_56, r113_57, r113_60, r113_63, r113_64, r113_67, r113_68, r113_71, r113_72, r113_75, r113_76, r113_77, r113_78, r113_79, r113_82, r113_83, r113_84, r113_87, r113_90, r112_0, r112_1, r112_4, r112_5, r112_8, r112_10, r112_11, r112_14, r112_15, r112_16, r112_17, r112_18, r112_19, r112_21, r112_22, e112, h31, hcx, hx', hTx, eH, xAf_none, xAf_some, xu_app, Nat.reduceAdd, Nat.reduceSub, Nat.reduceEqDiff, Nat.reduceMul, reduceIte, and_self, and_true, true_and, and_false, false_and, true_implies, false_implies, implies_true, not_true_eq_false, not_false_eq_true, Int.reduceToNat, Int.reducePow, Int.reduceNeg, Int.reduceLT, Int.reduceLE, Int.reduceAdd, Int.reduceSub, Int.reduceMul, Int.reduceDiv, Int.reduceMod, Int.reduceEq, xA_1, xA_15, xA_255, xA_511, xA_65535, xA_32768]
    refine p_madd (X := X) h29 hn2 (by omega) hD hX0 (by omega) (by omega) (by omega) fun a1 D1 A1 => ?_
    have hTx1 : a1 30 x = T x := by rw [A1 30 (by decide)]; exact hTx
    simp (config := {contextual := true, maxSteps := 1000000}) (disch := omega) only [r113_0, r113_1, r113_2, r113_5, r113_6, r113_7, r113_8_T, r113_8_F, r113_8, r113_11, r113_12, r113_13, r113_16, r113_17, r113_18, r113_21, r113_22, r113_23, r113_26, r113_29, r113_30, r113_31, r113_34, r113_35, r113_36, r113_39, r113_40, r113_41, r113_42, r113_46, r113_49, r113_52_T, r113_52_F, r113_52, r113_55, r113_56, r113_57, r113_60, r113_63, r113_64, r113_67, r113_68, r113_71, r113_72, r113_75, r113_76, r113_77, r113_78, r113_79, r113_82, r113_83, r113_84, r113_87, r113_90, r111_0, r111_2, r111_3, r111_6, r111_7, r111_8, r111_9, r111_10, r111_11, r111_14, r111_15, r111_16, r111_18, r111_19, r111_22, r111_23, r111_24, r111_25_T, r111_25_F, r111_25, r111_28, r111_30, r111_33, r111_35, r111_36, r111_37, r111_38, r111_39, r111_42, r111_44, r111_46, r111_47, r111_48, r111_49, r111_50, e111, h31, hcx, hx', hTx1, xAf_none, xAf_some, xu_app, Nat.reduceAdd, Nat.reduceSub, Nat.reduceEqDiff, Nat.reduceMul, reduceIte, and_self, and_true, true_and, and_false, false_and, true_implies, false_implies, implies_true, not_true_eq_false, not_false_eq_true, Int.reduceToNat, Int.reducePow, Int.reduceNeg, Int.reduceLT, Int.reduceLE, Int.reduceAdd, Int.reduceSub, Int.reduceMul, Int.reduceDiv, Int.reduceMod, Int.reduceEq, xA_1, xA_15, xA_255, xA_511, xA_65535, xA_32768]
    exact hback _ a1 (X + (R - H)) H _ _ h29 rfl (fun i hi => xu_ne _ hi) (fun k hk => by rw [xu_app, if_neg (by omega)]) D1 (A1 30 (by decide)) A1 (by omega) (by omega) hk hI'
theorem rb_n (σ : rS) (pl b : Int) : (rb σ pl b).2.2.2 ≤ σ.2.2.2 + 1 := by
  unfold rb; dsimp only; by_cases h : (if b = 1 then rH σ pl else σ.2.1 - rH σ pl) < 256
  · rw [if_pos h]; exact Nat.le_refl _
  · rw [if_neg h]; exact Nat.le_succ _
theorem rUp_n {p : Int} (r : Nat) : ∀ (σ : rS) (i : Int), (rUp σ p r i).2.2.2 ≤ σ.2.2.2 + r + 1 := by
  induction r with
  | zero => intro σ i; unfold rUp; split
            · have := rb_n σ (p + 1 + i) 0; omega
            · omega
  | succ r ih => intro σ i; have h1 := ih (rb σ (p + 1 + i) 1) (i + 1); have h2 := rb_n σ (p + 1 + i) 1; show (rUp (rb σ (p + 1 + i) 1) p r (i + 1)).2.2.2 ≤ _; omega
theorem rDn_n {p av : Int} (r : Nat) : ∀ (σ : rS), (rDn σ p av r).2.2.2 ≤ σ.2.2.2 + r := by
  induction r with
  | zero => intro σ; exact Nat.le_refl _
  | succ r ih => intro σ; have h1 := ih (rb σ (p + 10 + r) (av / 2 ^ r % 2)); have h2 := rb_n σ (p + 10 + r) (av / 2 ^ r % 2); show (rDn (rb σ (p + 10 + r) (av / 2 ^ r % 2)) p av r).2.2.2 ≤ _; omega
theorem l_power (h1 : 1 ≤ av) (h2 : av ≤ 256) {h : xm_H} (r : Nat) : ∀ (i : Nat), i + r = lg2 av → Q (h, .returned (some (.int (xI (lg2 av : Nat))))) → xT d 114 2 [.int (xI av), .int (xI (i : Int))] [] h Q := by
  have h8 := lg2_8 h1 h2
  have hp := lg2_le h1
  induction r with
  | zero =>
    intro i hi hq
    have hi' : i = lg2 av := by omega
    subst hi'
    rw [r114_2]
    have et : ((lg2 av : Nat) : Int).toNat = lg2 av := by omega
    have hlt : av / 2 ^ lg2 av < 2 := by rw [Int.ediv_lt_iff_lt_mul (pow2_pos _)]; rw [Int.pow_succ] at hp; omega
    have hbd := div_bound (av := av) (by omega) (lg2 av)
    simp (config := {contextual := true, maxSteps := 1000000}) (disch := omega) only [r114_0, r114_1, r114_3, r114_4, r114_5, r114_6_T, r114_6_F, r114_6, r114_9, r114_12, r114_15, r114_16, et, xAf_none, xAf_some, xu_app, Nat.reduceAdd, Nat.reduceSub, Nat.reduceEqDiff, Nat.reduceMul, reduceIte, and_self, and_true, true_and, and_false, false_and, true_implies, false_implies, implies_true, not_true_eq_false, not_false_eq_true, Int.reduceToNat, Int.reducePow, Int.reduceNeg, Int.reduceLT, Int.reduceLE, Int.reduceAdd, Int.reduceSub, Int.reduceMul, Int.reduceDiv, Int.reduceMod, Int.reduceEq, xA_1, xA_15, xA_255, xA_511, xA_65535, xA_32768]
    exact hq
  | succ r ih =>
    intro i hi hq
    rw [r114_2]
    have et : ((i : Nat) : Int).toNat = i := by omega
    have hup := lg2_up h1 (i := i) (by omega)
    have hbd := div_bound (av := av) (by omega) i
    have hdd : av / 2 ^ (i + 1) = av / 2 ^ i / 2 := by
      rw [Int.pow_succ, Int.ediv_ediv_of_nonneg (by have := pow2_pos i; omega)]
    simp (config := {contextual := true, maxSteps := 1000000}) (disch := omega) only [r114_0, r114_1, r114_3, r114_4, r114_5, r114_6_T, r114_6_F, r114_6, r114_9, r114_12, r114_15, r114_16, et, xAf_none, xAf_some, xu_app, Nat.reduceAdd, Nat.reduceSub, Nat.reduceEqDiff, Nat.reduceMul, reduceIte, and_self, and_true, true_and, and_false, false_and, true_implies, false_implies, implies_true, not_true_eq_false, not_false_eq_true, Int.reduceToNat, Int.reducePow, Int.reduceNeg, Int.reduceLT, Int.reduceLE, Int.reduceAdd, Int.reduceSub, Int.reduceMul, Int.reduceDiv, Int.reduceMod, Int.reduceEq, xA_1, xA_15, xA_255, xA_511, xA_65535, xA_32768]
    exact ih (i + 1) (by omega) hq
theorem s_power (h1 : 1 ≤ av) (h2 : av ≤ 256) {h : xm_H} : xTC d 114 [.int (xI av)] h Q ↔ Q (h, .returned (some (.int (xI (lg2 av : Nat))))) := by
  refine xTC_iff ?_
  rw [e114]
  simp (config := {contextual := true, maxSteps := 1000000}) (disch := omega) only [r114_0, r114_1, r114_3, r114_4, r114_5, r114_6_T, r114_6_F, r114_6, r114_9, r114_12, r114_15, r114_16, xAf_none, xAf_some, xu_app, Nat.reduceAdd, Nat.reduceSub, Nat.reduceEqDiff, Nat.reduceMul, reduceIte, and_self, and_true, true_and, and_false, false_and, true_implies, false_implies, implies_true, not_true_eq_false, not_false_eq_true, Int.reduceToNat, Int.reducePow, Int.reduceNeg, Int.reduceLT, Int.reduceLE, Int.reduceAdd, Int.reduceSub, Int.reduceMul, Int.reduceDiv, Int.reduceMod, Int.reduceEq, xA_1, xA_15, xA_255, xA_511, xA_65535, xA_32768]
  exact l_power h1 h2 (lg2 av) 0 (by omega) rfl
end S51
