/-! MODE 1: A DIFFERENCE IS WRITTEN -/
/-- the bits that tell the power: from i on r times 1, then 0 -/
def rUp (σ : rS) (p : Int) : Nat → Int → rS
  | 0, i => if i < 8 then rb σ (p + 1 + i) 0 else σ
  | r + 1, i => rUp (rb σ (p + 1 + i) 1) p r (i + 1)
/-- the digits below the power, from the highest on -/
def rDn (σ : rS) (p av : Int) : Nat → rS
  | 0 => σ
  | i + 1 => rDn (rb σ (p + 10 + i) (av / 2 ^ i % 2)) p av i
def lg2 (av : Int) : Nat := Nat.log2 av.toNat
def rE (σ : rS) (c e : Int) : rS :=
  if e = 0 then rb σ (c * 19) 1
  else rb (rDn (rUp (rb σ (c * 19) 0) (c * 19) (lg2 (if e < 0 then -e else e)) 0) (c * 19) (if e < 0 then -e else e) (lg2 (if e < 0 then -e else e))) (c * 19 + 18) (if e < 0 then 1 else 0)
theorem rUp_I {p : Int} (r : Nat) : ∀ {σ : rS} (i : Int), rI σ → rI (rUp σ p r i) := by
  induction r with
  | zero => intro σ i h; unfold rUp; split; exact rb_I h _ _; exact h
  | succ r ih => intro σ i h; exact ih _ (rb_I h _ _)
theorem rDn_I {p av : Int} (r : Nat) : ∀ {σ : rS}, rI σ → rI (rDn σ p av r) := by
  induction r with
  | zero => intro σ h; exact h
  | succ r ih => intro σ h; exact ih (rb_I h _ _)
theorem rE_I {σ : rS} {c e : Int} (h : rI σ) : rI (rE σ c e) := by
  unfold rE; split
  · exact rb_I h _ _
  · exact rb_I (rDn_I _ (rUp_I _ _ (rb_I h _ _))) _ _
theorem lg2_le {av : Int} (h : 1 ≤ av) : 2 ^ lg2 av ≤ av ∧ av < 2 ^ (lg2 av + 1) := by
  have h1 : 2 ^ Nat.log2 av.toNat ≤ av.toNat := Nat.log2_self_le (by omega)
  have h2 : av.toNat < 2 ^ (Nat.log2 av.toNat + 1) := Nat.lt_log2_self
  have e1 : ((2 ^ Nat.log2 av.toNat : Nat) : Int) = 2 ^ lg2 av := by rw [Int.natCast_pow]; rfl
  have e2 : ((2 ^ (Nat.log2 av.toNat + 1) : Nat) : Int) = 2 ^ (lg2 av + 1) := by rw [Int.natCast_pow]; rfl
  rw [← e1, ← e2]; omega
theorem pow2_le {i j : Nat} (h : i ≤ j) : (2 : Int) ^ i ≤ 2 ^ j := by
  have : (2 : Nat) ^ i ≤ 2 ^ j := Nat.pow_le_pow_right (by omega) h
  have e1 : ((2 ^ i : Nat) : Int) = 2 ^ i := by rw [Int.natCast_pow]; rfl
  have e2 : ((2 ^ j : Nat) : Int) = 2 ^ j := by rw [Int.natCast_pow]; rfl
  rw [← e1, ← e2]; omega
theorem pow2_pos (i : Nat) : (0 : Int) < 2 ^ i := Int.pow_pos (by omega)
theorem lg2_8 {av : Int} (h : 1 ≤ av) (h2 : av ≤ 256) : lg2 av ≤ 8 := by
  have h1 := lg2_le h
  by_cases hc : lg2 av ≤ 8
  · exact hc
  · have := pow2_le (i := 9) (j := lg2 av) (by omega)
    omega
theorem lg2_up {av : Int} (h : 1 ≤ av) {i : Nat} (hi : i < lg2 av) : 0 < av / 2 ^ (i + 1) := by
  have h1 := lg2_le h
  have h2 := pow2_le (i := i + 1) (j := lg2 av) (by omega)
  have h3 := pow2_pos (i + 1)
  have : 1 ≤ av / 2 ^ (i + 1) := by rw [Int.le_ediv_iff_mul_le h3]; omega
  omega
theorem lg2_stop {av : Int} (h : 1 ≤ av) : av / 2 ^ (lg2 av + 1) = 0 := by
  have h1 := lg2_le h
  exact Int.ediv_eq_zero_of_lt (by omega) h1.2
theorem div_bound {av : Int} (h : 0 ≤ av) (i : Nat) : 0 ≤ av / 2 ^ i ∧ av / 2 ^ i ≤ av := by
  have h3 := pow2_pos i
  exact ⟨Int.ediv_nonneg h (by omega), Int.ediv_le_self _ h⟩
section S43
variable {d : Nat} {Q : xm_H × Outcome → Prop} {g : xG} {c e av p : Int} {A : List Int} {l6 l7 : Value}
set_option maxRecDepth 100000 in
theorem l_rup (p0 : 0 ≤ p) (p1 : p + 19 ≤ 2394) (h1 : 1 ≤ av) (h2 : av ≤ 256) (hd : 3 ≤ d) (r : Nat) : ∀ (σ : rS) (f : Nat → Nat → Int) (a : Nat → Int → Int) (i : Nat), i + r = lg2 av → xW1 f a A σ →
    (∀ f' a', xW1 f' a' A (rUp σ p r i) → xFc f a f' a' → xT d 66 76 [.ref 17, .int (xI c), .int (xI e), .int (xI p), .int (xI av), .int (xI (lg2 av)), l6, l7] [] (hh f' a' g) Q) →
    xT d 66 34 [.ref 17, .int (xI c), .int (xI e), .int (xI p), .int (xI av), .int (xI (i : Int)), l6, l7] [] (hh f a g) Q := by
  have h8 := lg2_8 h1 h2
  induction r with
  | zero =>
    intro σ f a i hi hW hk
    have hi' : i = lg2 av := by omega
    subst hi'
    rw [r66_34]
    have hst := lg2_stop h1
    have et : ((lg2 av : Int) + 1).toNat = lg2 av + 1 := by omega
    unfold rUp at hk
    by_cases hc : ((lg2 av : Nat) : Int) < 8
    · rw [if_pos hc] at hk
      simp (config := {contextual := true, maxSteps := 1000000}) (disch := omega) only [r66_0, r66_1, r66_3, r66_4, r66_5, r66_6, r66_7, r66_8_T, r66_8_F, r66_8, r66_11, r66_12, r66_15, r66_16, r66_19, r66_20_T, r66_20_F, r66_20, r66_23, r66_24, r66_25, r66_26_T, r66_26_F, r66_26, r66_29, r66_31, r66_32, r66_36, r66_38_T, r66_38_F, r66_38, r66_41, r66_42, r66_43, r66_44, r66_45, r66_47, r66_48, r66_50, r66_52, r66_53, r66_54, r66_55_T, r66_55_F, r66_55, r66_58, r66_59, r66_62, r66_63, r66_66, r66_67_T, r66_67_F, r66_67, r66_70, r66_73, r66_76, r66_77, r66_79, r66_81, r66_82, r66_83, r66_87_T, r66_87_F, r66_87, r66_90, r66_92, r66_93, r66_94, r66_95, r66_96, r66_98, r66_99, r66_101, r66_102, r66_104, r66_106, r66_107, r66_108, r66_109, r66_112, r66_113, r66_115, r66_118, r66_121, r66_122, r66_123, r66_125, r66_126, r66_127_T, r66_127_F, r66_127, r66_130, r66_131, r66_134, r66_135, r66_138, r66_139_T, r66_139_F, r66_139, r66_142, r66_144, r66_145, r66_148, r66_150, et, hst, xAf_none, xAf_some, xu_app, Nat.reduceAdd, Nat.reduceSub, Nat.reduceEqDiff, Nat.reduceMul, reduceIte, and_self, and_true, true_and, and_false, false_and, true_implies, false_implies, implies_true, not_true_eq_false, not_false_eq_true, Int.reduceToNat, Int.reducePow, Int.reduceNeg, Int.reduceLT, Int.reduceLE, Int.reduceAdd, Int.reduceSub, Int.reduceMul, Int.reduceDiv, Int.reduceMod, Int.reduceEq, xA_1, xA_15, xA_255, xA_511, xA_65535, xA_32768]
      refine p_rbit hW (by omega) (by omega) (.inl rfl) (by omega) fun f1 a1 W1 F1 => ?_
      simp (config := {contextual := true, maxSteps := 1000000}) (disch := omega) only [r66_0, r66_1, r66_3, r66_4, r66_5, r66_6, r66_7, r66_8_T, r66_8_F, r66_8, r66_11, r66_12, r66_15, r66_16, r66_19, r66_20_T, r66_20_F, r66_20, r66_23, r66_24, r66_25, r66_26_T, r66_26_F, r66_26, r66_29, r66_31, r66_32, r66_36, r66_38_T, r66_38_F, r66_38, r66_41, r66_42, r66_43, r66_44, r66_45, r66_47, r66_48, r66_50, r66_52, r66_53, r66_54, r66_55_T, r66_55_F, r66_55, r66_58, r66_59, r66_62, r66_63, r66_66, r66_67_T, r66_67_F, r66_67, r66_70, r66_73, r66_77, r66_79, r66_81, r66_82, r66_83, r66_87_T, r66_87_F, r66_87, r66_90, r66_92, r66_93, r66_94, r66_95, r66_96, r66_98, r66_99, r66_101, r66_102, r66_104, r66_106, r66_107, r66_108, r66_109, r66_112, r66_113, r66_115, r66_118, r66_121, r66_122, r66_123, r66_125, r66_126, r66_127_T, r66_127_F, r66_127, r66_130, r66_131, r66_134, r66_135, r66_138, r66_139_T, r66_139_F, r66_139, r66_142, r66_144, r66_145, r66_148, r66_150, xAf_none, xAf_some, xu_app, Nat.reduceAdd, Nat.reduceSub, Nat.reduceEqDiff, Nat.reduceMul, reduceIte, and_self, and_true, true_and, and_false, false_and, true_implies, false_implies, implies_true, not_true_eq_false, not_false_eq_true, Int.reduceToNat, Int.reducePow, Int.reduceNeg, Int.reduceLT, Int.reduceLE, Int.reduceAdd, Int.reduceSub, Int.reduceMul, Int.reduceDiv, Int.reduceMod, Int.reduceEq, xA_1, xA_15, xA_255, xA_511, xA_65535, xA_32768]
      exact hk _ _ W1 F1
    · rw [if_neg hc] at hk
      simp (config := {contextual := true, maxSteps := 1000000}) (disch := omega) only [r66_0, r66_1, r66_3, r66_4, r66_5, r66_6, r66_7, r66_8_T, r66_8_F, r66_8, r66_11, r66_12, r66_15, r66_16, r66_19, r66_20_T, r66_20_F, r66_20, r66_23, r66_24, r66_25, r66_26_T, r66_26_F, r66_26, r66_29, r66_31, r66_32, r66_36, r66_38_T, r66_38_F, r66_38, r66_41, r66_42, r66_43, r66_44, r66_45, r66_47, r66_48, r66_50, r66_52, r66_53, r66_54, r66_55_T, r66_55_F, r66_55, r66_58, r66_59, r66_62, r66_63, r66_66, r66_67_T, r66_67_F, r66_67, r66_70, r66_73, r66_77, r66_79, r66_81, r66_82, r66_83, r66_87_T, r66_87_F, r66_87, r66_90, r66_92, r66_93, r66_94, r66_95, r66_96, r66_98, r66_99, r66_101, r66_102, r66_104, r66_106, r66_107, r66_108, r66_109, r66_112, r66_113, r66_115, r66_118, r66_121, r66_122, r66_123, r66_125, r66_126, r66_127_T, r66_127_F, r66_127, r66_130, r66_131, r66_134, r66_135, r66_138, r66_139_T, r66_139_F, r66_139, r66_142, r66_144, r66_145, r66_148, r66_150, xAf_none, xAf_some, xu_app, Nat.reduceAdd, Nat.reduceSub, Nat.reduceEqDiff, Nat.reduceMul, reduceIte, and_self, and_true, true_and, and_false, false_and, true_implies, false_implies, implies_true, not_true_eq_false, not_false_eq_true, Int.reduceToNat, Int.reducePow, Int.reduceNeg, Int.reduceLT, Int.reduceLE, Int.reduceAdd, Int.reduceSub, Int.reduceMul, Int.reduceDiv, Int.reduceMod, Int.reduceEq, xA_1, xA_15, xA_255, xA_511, xA_65535, xA_32768]
      exact hk _ _ hW (xFc.refl _ _)
  | succ r ih =>
    intro σ f a i hi hW hk
    rw [r66_34]
    have hup := lg2_up h1 (i := i) (by omega)
    have hbd := div_bound (av := av) (by omega) (i + 1)
    have et : ((i : Int) + 1).toNat = i + 1 := by omega
    have hc : (i : Int) < 8 := by omega
    simp (config := {contextual := true, maxSteps := 1000000}) (disch := omega) only [r66_0, r66_1, r66_3, r66_4, r66_5, r66_6, r66_7, r66_8_T, r66_8_F, r66_8, r66_11, r66_12, r66_15, r66_16, r66_19, r66_20_T, r66_20_F, r66_20, r66_23, r66_24, r66_25, r66_26_T, r66_26_F, r66_26, r66_29, r66_31, r66_32, r66_36, r66_38_T, r66_38_F, r66_38, r66_41, r66_42, r66_43, r66_44, r66_45, r66_47, r66_48, r66_50, r66_52, r66_53, r66_54, r66_55_T, r66_55_F, r66_55, r66_58, r66_59, r66_62, r66_63, r66_66, r66_67_T, r66_67_F, r66_67, r66_70, r66_73, r66_76, r66_77, r66_79, r66_81, r66_82, r66_83, r66_87_T, r66_87_F, r66_87, r66_90, r66_92, r66_93, r66_94, r66_95, r66_96, r66_98, r66_99, r66_101, r66_102, r66_104, r66_106, r66_107, r66_108, r66_109, r66_112, r66_113, r66_115, r66_118, r66_121, r66_122, r66_123, r66_125, r66_126, r66_127_T, r66_127_F, r66_127, r66_130, r66_131, r66_134, r66_135, r66_138, r66_139_T, r66_139_F, r66_139, r66_142, r66_144, r66_145, r66_148, r66_150, et, xAf_none, xAf_some, xu_app, Nat.reduceAdd, Nat.reduceSub, Nat.reduceEqDiff, Nat.reduceMul, reduceIte, and_self, and_true, true_and, and_false, false_and, true_implies, false_implies, implies_true, not_true_eq_false, not_false_eq_true, Int.reduceToNat, Int.reducePow, Int.reduceNeg, Int.reduceLT, Int.reduceLE, Int.reduceAdd, Int.reduceSub, Int.reduceMul, Int.reduceDiv, Int.reduceMod, Int.reduceEq, xA_1, xA_15, xA_255, xA_511, xA_65535, xA_32768]
    refine p_rbit hW (by omega) (by omega) (.inr rfl) (by omega) fun f1 a1 W1 F1 => ?_
    simp (config := {contextual := true, maxSteps := 1000000}) (disch := omega) only [r66_0, r66_1, r66_3, r66_4, r66_5, r66_6, r66_7, r66_8_T, r66_8_F, r66_8, r66_11, r66_12, r66_15, r66_16, r66_19, r66_20_T, r66_20_F, r66_20, r66_23, r66_24, r66_25, r66_26_T, r66_26_F, r66_26, r66_29, r66_31, r66_32, r66_36, r66_38_T, r66_38_F, r66_38, r66_41, r66_42, r66_43, r66_44, r66_45, r66_47, r66_48, r66_50, r66_52, r66_53, r66_54, r66_55_T, r66_55_F, r66_55, r66_58, r66_59, r66_62, r66_63, r66_66, r66_67_T, r66_67_F, r66_67, r66_70, r66_73, r66_76, r66_77, r66_79, r66_81, r66_82, r66_83, r66_87_T, r66_87_F, r66_87, r66_90, r66_92, r66_93, r66_94, r66_95, r66_96, r66_98, r66_99, r66_101, r66_102, r66_104, r66_106, r66_107, r66_108, r66_109, r66_112, r66_113, r66_115, r66_118, r66_121, r66_122, r66_123, r66_125, r66_126, r66_127_T, r66_127_F, r66_127, r66_130, r66_131, r66_134, r66_135, r66_138, r66_139_T, r66_139_F, r66_139, r66_142, r66_144, r66_145, r66_148, r66_150, xAf_none, xAf_some, xu_app, Nat.reduceAdd, Nat.reduceSub, Nat.reduceEqDiff, Nat.reduceMul, reduceIte, and_self, and_true, true_and, and_false, false_and, true_implies, false_implies, implies_true, not_true_eq_false, not_false_eq_true, Int.reduceToNat, Int.reducePow, Int.reduceNeg, Int.reduceLT, Int.reduceLE, Int.reduceAdd, Int.reduceSub, Int.reduceMul, Int.reduceDiv, Int.reduceMod, Int.reduceEq, xA_1, xA_15, xA_255, xA_511, xA_65535, xA_32768]
    refine ih _ f1 a1 (i + 1) (by omega) W1 fun f2 a2 W2 F2 => ?_
    exact hk _ _ W2 (F1.trans F2)
set_option maxRecDepth 100000 in
theorem l_rdn {q : Int} (p0 : 0 ≤ p) (p1 : p + 19 ≤ 2394) (h1 : 1 ≤ av) (h2 : av ≤ 256) (hd : 3 ≤ d) (r : Nat) : ∀ (σ : rS) (f : Nat → Nat → Int) (a : Nat → Int → Int), r ≤ lg2 av → xW1 f a A σ →
    (∀ f' a', xW1 f' a' A (rDn σ p av r) → xFc f a f' a' → xT d 66 121 [.ref 17, .int (xI c), .int (xI e), .int (xI p), .int (xI av), .int (xI q), .int (xI av), .int (xI (-1))] [] (hh f' a' g) Q) →
    xT d 66 85 [.ref 17, .int (xI c), .int (xI e), .int (xI p), .int (xI av), .int (xI q), .int (xI (av / 2 ^ r)), .int (xI ((r : Int) - 1))] [] (hh f a g) Q := by
  have h8 := lg2_8 h1 h2
  induction r with
  | zero =>
    intro σ f a hr hW hk
    rw [r66_85]
    have e0 : ((0 : Nat) : Int) - 1 = -1 := by omega
    have e1 : av / 2 ^ 0 = av := by simp
    rw [e0, e1]
    simp (config := {contextual := true, maxSteps := 1000000}) (disch := omega) only [r66_0, r66_1, r66_3, r66_4, r66_5, r66_6, r66_7, r66_8_T, r66_8_F, r66_8, r66_11, r66_12, r66_15, r66_16, r66_19, r66_20_T, r66_20_F, r66_20, r66_23, r66_24, r66_25, r66_26_T, r66_26_F, r66_26, r66_29, r66_31, r66_32, r66_36, r66_38_T, r66_38_F, r66_38, r66_41, r66_42, r66_43, r66_44, r66_45, r66_47, r66_48, r66_50, r66_52, r66_53, r66_54, r66_55_T, r66_55_F, r66_55, r66_58, r66_59, r66_62, r66_63, r66_66, r66_67_T, r66_67_F, r66_67, r66_70, r66_73, r66_76, r66_77, r66_79, r66_81, r66_82, r66_83, r66_87_T, r66_87_F, r66_87, r66_90, r66_92, r66_93, r66_94, r66_95, r66_96, r66_98, r66_99, r66_101, r66_102, r66_104, r66_106, r66_107, r66_108, r66_109, r66_112, r66_113, r66_115, r66_118, r66_122, r66_123, r66_125, r66_126, r66_127_T, r66_127_F, r66_127, r66_130, r66_131, r66_134, r66_135, r66_138, r66_139_T, r66_139_F, r66_139, r66_142, r66_144, r66_145, r66_148, r66_150, xAf_none, xAf_some, xu_app, Nat.reduceAdd, Nat.reduceSub, Nat.reduceEqDiff, Nat.reduceMul, reduceIte, and_self, and_true, true_and, and_false, false_and, true_implies, false_implies, implies_true, not_true_eq_false, not_false_eq_true, Int.reduceToNat, Int.reducePow, Int.reduceNeg, Int.reduceLT, Int.reduceLE, Int.reduceAdd, Int.reduceSub, Int.reduceMul, Int.reduceDiv, Int.reduceMod, Int.reduceEq, xA_1, xA_15, xA_255, xA_511, xA_65535, xA_32768]
    exact hk _ _ hW (xFc.refl _ _)
  | succ r ih =>
    intro σ f a hr hW hk
    rw [r66_85]
    have e0 : ((r + 1 : Nat) : Int) - 1 = r := by omega
    have et : ((r : Int)).toNat = r := by omega
    have hbd := div_bound (av := av) (by omega) r
    have hbd1 := div_bound (av := av) (by omega) (r + 1)
    have hdd : av / 2 ^ (r + 1) = av / 2 ^ r / 2 := by
      rw [Int.pow_succ, Int.ediv_ediv_of_nonneg (by have := pow2_pos r; omega)]
    rw [e0]
    simp (config := {contextual := true, maxSteps := 1000000}) (disch := omega) only [r66_0, r66_1, r66_3, r66_4, r66_5, r66_6, r66_7, r66_8_T, r66_8_F, r66_8, r66_11, r66_12, r66_15, r66_16, r66_19, r66_20_T, r66_20_F, r66_20, r66_23, r66_24, r66_25, r66_26_T, r66_26_F, r66_26, r66_29, r66_31, r66_32, r66_36, r66_38_T, r66_38_F, r66_38, r66_41, r66_42, r66_43, r66_44, r66_45, r66_47, r66_48, r66_50, r66_52, r66_53, r66_54, r66_55_T, r66_55_F, r66_55, r66_58, r66_59, r66_62, r66_63, r66_66, r66_67_T, r66_67_F, r66_67, r66_70, r66_73, r66_76, r66_77, r66_79, r66_81, r66_82, r66_83, r66_87_T, r66_87_F, r66_87, r66_90, r66_92, r66_93, r66_94, r66_95, r66_96, r66_98, r66_99, r66_101, r66_102, r66_104, r66_106, r66_107, r66_108, r66_109, r66_112, r66_113, r66_115, r66_118, r66_121, r66_122, r66_123, r66_125, r66_126, r66_127_T, r66_127_F, r66_127, r66_130, r66_131, r66_134, r66_135, r66_138, r66_139_T, r66_139_F, r66_139, r66_142, r66_144, r66_145, r66_148, r66_150, et, xAf_none, xAf_some, xu_app, Nat.reduceAdd, Nat.reduceSub, Nat.reduceEqDiff, Nat.reduceMul, reduceIte, and_self, and_true, true_and, and_false, false_and, true_implies, false_implies, implies_true, not_true_eq_false, not_false_eq_true, Int.reduceToNat, Int.reducePow, Int.reduceNeg, Int.reduceLT, Int.reduceLE, Int.reduceAdd, Int.reduceSub, Int.reduceMul, Int.reduceDiv, Int.reduceMod, Int.reduceEq, xA_1, xA_15, xA_255, xA_511, xA_65535, xA_32768]
    refine p_rbit hW (by omega) (by omega) (by omega) (by omega) fun f1 a1 W1 F1 => ?_
    have hgot : av / 2 ^ (r + 1) * 2 + av / 2 ^ r % 2 = av / 2 ^ r := by omega
    simp (config := {contextual := true, maxSteps := 1000000}) (disch := omega) only [r66_0, r66_1, r66_3, r66_4, r66_5, r66_6, r66_7, r66_8_T, r66_8_F, r66_8, r66_11, r66_12, r66_15, r66_16, r66_19, r66_20_T, r66_20_F, r66_20, r66_23, r66_24, r66_25, r66_26_T, r66_26_F, r66_26, r66_29, r66_31, r66_32, r66_36, r66_38_T, r66_38_F, r66_38, r66_41, r66_42, r66_43, r66_44, r66_45, r66_47, r66_48, r66_50, r66_52, r66_53, r66_54, r66_55_T, r66_55_F, r66_55, r66_58, r66_59, r66_62, r66_63, r66_66, r66_67_T, r66_67_F, r66_67, r66_70, r66_73, r66_76, r66_77, r66_79, r66_81, r66_82, r66_83, r66_87_T, r66_87_F, r66_87, r66_90, r66_92, r66_93, r66_94, r66_95, r66_96, r66_98, r66_99, r66_101, r66_102, r66_104, r66_106, r66_107, r66_108, r66_109, r66_112, r66_113, r66_115, r66_118, r66_121, r66_122, r66_123, r66_125, r66_126, r66_127_T, r66_127_F, r66_127, r66_130, r66_131, r66_134, r66_135, r66_138, r66_139_T, r66_139_F, r66_139, r66_142, r66_144, r66_145, r66_148, r66_150, hgot, xAf_none, xAf_some, xu_app, Nat.reduceAdd, Nat.reduceSub, Nat.reduceEqDiff, Nat.reduceMul, reduceIte, and_self, and_true, true_and, and_false, false_and, true_implies, false_implies, implies_true, not_true_eq_false, not_false_eq_true, Int.reduceToNat, Int.reducePow, Int.reduceNeg, Int.reduceLT, Int.reduceLE, Int.reduceAdd, Int.reduceSub, Int.reduceMul, Int.reduceDiv, Int.reduceMod, Int.reduceEq, xA_1, xA_15, xA_255, xA_511, xA_65535, xA_32768]
    refine ih _ f1 a1 (by omega) W1 fun f2 a2 W2 F2 => ?_
    exact hk _ _ W2 (F1.trans F2)
variable {f : Nat → Nat → Int} {a : Nat → Int → Int} {σ : rS}
set_option maxRecDepth 100000 in
theorem p_rcode (hW : xW1 f a A σ) (c0 : 0 ≤ c) (c1 : c < 126) (e0 : -256 ≤ e) (e1 : e ≤ 256) (hd : 3 ≤ d) (hk : ∀ f' a', xW1 f' a' A (rE σ c e) → xFc f a f' a' → Q (hh f' a' g, .returned (some (.int (xI e))))) : xTC d 66 [.ref 17, .int (xI c), .int (xI e)] (hh f a g) Q := by
  rw [e66]
  unfold rE at hk
  by_cases hz : e = 0
  · rw [if_pos hz] at hk
    subst hz
    simp (config := {contextual := true, maxSteps := 1000000}) (disch := omega) only [r66_0, r66_1, r66_3, r66_4, r66_5, r66_6, r66_7, r66_8_T, r66_8_F, r66_8, r66_11, r66_12, r66_15, r66_16, r66_19, r66_20_T, r66_20_F, r66_20, r66_23, r66_24, r66_25, r66_26_T, r66_26_F, r66_26, r66_29, r66_31, r66_32, r66_36, r66_38_T, r66_38_F, r66_38, r66_41, r66_42, r66_43, r66_44, r66_45, r66_47, r66_48, r66_50, r66_52, r66_53, r66_54, r66_55_T, r66_55_F, r66_55, r66_58, r66_59, r66_62, r66_63, r66_66, r66_67_T, r66_67_F, r66_67, r66_70, r66_73, r66_76, r66_77, r66_79, r66_81, r66_82, r66_83, r66_87_T, r66_87_F, r66_87, r66_90, r66_92, r66_93, r66_94, r66_95, r66_96, r66_98, r66_99, r66_101, r66_102, r66_104, r66_106, r66_107, r66_108, r66_109, r66_112, r66_113, r66_115, r66_118, r66_121, r66_122, r66_123, r66_125, r66_126, r66_127_T, r66_127_F, r66_127, r66_130, r66_131, r66_134, r66_135, r66_138, r66_139_T, r66_139_F, r66_139, r66_142, r66_144, r66_145, r66_148, r66_150, xAf_none, xAf_some, xu_app, Nat.reduceAdd, Nat.reduceSub, Nat.reduceEqDiff, Nat.reduceMul, reduceIte, and_self, and_true, true_and, and_false, false_and, true_implies, false_implies, implies_true, not_true_eq_false, not_false_eq_true, Int.reduceToNat, Int.reducePow, Int.reduceNeg, Int.reduceLT, Int.reduceLE, Int.reduceAdd, Int.reduceSub, Int.reduceMul, Int.reduceDiv, Int.reduceMod, Int.reduceEq, xA_1, xA_15, xA_255, xA_511, xA_65535, xA_32768]
    refine p_rbit hW (by omega) (by omega) (.inr rfl) (by omega) fun f1 a1 W1 F1 => ?_
    simp (config := {contextual := true, maxSteps := 1000000}) (disch := omega) only [r66_0, r66_1, r66_3, r66_4, r66_5, r66_6, r66_7, r66_8_T, r66_8_F, r66_8, r66_11, r66_12, r66_15, r66_16, r66_19, r66_20_T, r66_20_F, r66_20, r66_23, r66_24, r66_25, r66_26_T, r66_26_F, r66_26, r66_29, r66_31, r66_32, r66_36, r66_38_T, r66_38_F, r66_38, r66_41, r66_42, r66_43, r66_44, r66_45, r66_47, r66_48, r66_50, r66_52, r66_53, r66_54, r66_55_T, r66_55_F, r66_55, r66_58, r66_59, r66_62, r66_63, r66_66, r66_67_T, r66_67_F, r66_67, r66_70, r66_73, r66_76, r66_77, r66_79, r66_81, r66_82, r66_83, r66_87_T, r66_87_F, r66_87, r66_90, r66_92, r66_93, r66_94, r66_95, r66_96, r66_98, r66_99, r66_101, r66_102, r66_104, r66_106, r66_107, r66_108, r66_109, r66_112, r66_113, r66_115, r66_118, r66_121, r66_122, r66_123, r66_125, r66_126, r66_127_T, r66_127_F, r66_127, r66_130, r66_131, r66_134, r66_135, r66_138, r66_139_T, r66_139_F, r66_139, r66_142, r66_144, r66_145, r66_148, r66_150, xAf_none, xAf_some, xu_app, Nat.reduceAdd, Nat.reduceSub, Nat.reduceEqDiff, Nat.reduceMul, reduceIte, and_self, and_true, true_and, and_false, false_and, true_implies, false_implies, implies_true, not_true_eq_false, not_false_eq_true, Int.reduceToNat, Int.reducePow, Int.reduceNeg, Int.reduceLT, Int.reduceLE, Int.reduceAdd, Int.reduceSub, Int.reduceMul, Int.reduceDiv, Int.reduceMod, Int.reduceEq, xA_1, xA_15, xA_255, xA_511, xA_65535, xA_32768]
    exact hk _ _ W1 F1
  · rw [if_neg hz] at hk
    simp (config := {contextual := true, maxSteps := 1000000}) (disch := omega) only [r66_0, r66_1, r66_3, r66_4, r66_5, r66_6, r66_7, r66_8_T, r66_8_F, r66_8, r66_11, r66_12, r66_15, r66_16, r66_19, r66_20_T, r66_20_F, r66_20, r66_23, r66_24, r66_25, r66_26_T, r66_26_F, r66_26, r66_29, r66_31, r66_32, r66_36, r66_38_T, r66_38_F, r66_38, r66_41, r66_42, r66_43, r66_44, r66_45, r66_47, r66_48, r66_50, r66_52, r66_53, r66_54, r66_55_T, r66_55_F, r66_55, r66_58, r66_59, r66_62, r66_63, r66_66, r66_67_T, r66_67_F, r66_67, r66_70, r66_73, r66_76, r66_77, r66_79, r66_81, r66_82, r66_83, r66_87_T, r66_87_F, r66_87, r66_90, r66_92, r66_93, r66_94, r66_95, r66_96, r66_98, r66_99, r66_101, r66_102, r66_104, r66_106, r66_107, r66_108, r66_109, r66_112, r66_113, r66_115, r66_118, r66_121, r66_122, r66_123, r66_125, r66_126, r66_127_T, r66_127_F, r66_127, r66_130, r66_131, r66_134, r66_135, r66_138, r66_139_T, r66_139_F, r66_139, r66_142, r66_144, r66_145, r66_148, r66_150, xAf_none, xAf_some, xu_app, Nat.reduceAdd, Nat.reduceSub, Nat.reduceEqDiff, Nat.reduceMul, reduceIte, and_self, and_true, true_and, and_false, false_and, true_implies, false_implies, implies_true, not_true_eq_false, not_false_eq_true, Int.reduceToNat, Int.reducePow, Int.reduceNeg, Int.reduceLT, Int.reduceLE, Int.reduceAdd, Int.reduceSub, Int.reduceMul, Int.reduceDiv, Int.reduceMod, Int.reduceEq, xA_1, xA_15, xA_255, xA_511, xA_65535, xA_32768]
    refine p_rbit hW (by omega) (by omega) (.inl rfl) (by omega) fun f1 a1 W1 F1 => ?_
    obtain ⟨av, hav⟩ : ∃ av, (if e < 0 then -e else e) = av := ⟨_, rfl⟩
    rw [hav] at hk
    have h1 : 1 ≤ av := by rw [← hav]; split <;> omega
    have h2 : av ≤ 256 := by rw [← hav]; split <;> omega
    have hp := lg2_le h1
    have one : av / 2 ^ lg2 av = 1 := by
      have h3 := pow2_pos (lg2 av)
      have hle : 1 ≤ av / 2 ^ lg2 av := by rw [Int.le_ediv_iff_mul_le h3]; omega
      have hlt : av / 2 ^ lg2 av < 2 := by rw [Int.ediv_lt_iff_lt_mul h3]; rw [Int.pow_succ] at hp; omega
      omega
    have go : xT d 66 34 [.ref 17, .int (xI c), .int (xI e), .int (xI (c * 19)), .int (xI av), .int (xI ((0 : Nat) : Int)), .null, .null] [] (hh f1 a1 g) Q := by
      refine l_rup (by omega) (by omega) h1 h2 hd (lg2 av) _ f1 a1 0 (by omega) W1 fun f2 a2 W2 F2 => ?_
      simp (config := {contextual := true, maxSteps := 1000000}) (disch := omega) only [r66_0, r66_1, r66_3, r66_4, r66_5, r66_6, r66_7, r66_8_T, r66_8_F, r66_8, r66_11, r66_12, r66_15, r66_16, r66_19, r66_20_T, r66_20_F, r66_20, r66_23, r66_24, r66_25, r66_26_T, r66_26_F, r66_26, r66_29, r66_31, r66_32, r66_36, r66_38_T, r66_38_F, r66_38, r66_41, r66_42, r66_43, r66_44, r66_45, r66_47, r66_48, r66_50, r66_52, r66_53, r66_54, r66_55_T, r66_55_F, r66_55, r66_58, r66_59, r66_62, r66_63, r66_66, r66_67_T, r66_67_F, r66_67, r66_70, r66_73, r66_76, r66_77, r66_79, r66_81, r66_82, r66_83, r66_87_T, r66_87_F, r66_87, r66_90, r66_92, r66_93, r66_94, r66_95, r66_96, r66_98, r66_99, r66_101, r66_102, r66_104, r66_106, r66_107, r66_108, r66_109, r66_112, r66_113, r66_115, r66_118, r66_121, r66_122, r66_123, r66_125, r66_126, r66_127_T, r66_127_F, r66_127, r66_130, r66_131, r66_134, r66_135, r66_138, r66_139_T, r66_139_F, r66_139, r66_142, r66_144, r66_145, r66_148, r66_150, xAf_none, xAf_some, xu_app, Nat.reduceAdd, Nat.reduceSub, Nat.reduceEqDiff, Nat.reduceMul, reduceIte, and_self, and_true, true_and, and_false, false_and, true_implies, false_implies, implies_true, not_true_eq_false, not_false_eq_true, Int.reduceToNat, Int.reducePow, Int.reduceNeg, Int.reduceLT, Int.reduceLE, Int.reduceAdd, Int.reduceSub, Int.reduceMul, Int.reduceDiv, Int.reduceMod, Int.reduceEq, xA_1, xA_15, xA_255, xA_511, xA_65535, xA_32768]
      have h8 := lg2_8 h1 h2
      have := l_rdn (c := c) (e := e) (g := g) (Q := Q) (q := lg2 av) (p := c * 19) (by omega) (by omega) h1 h2 hd (lg2 av) _ f2 a2 (by omega) W2 fun f3 a3 W3 F3 => ?_
      · rw [one] at this; exact this
      · by_cases hneg : e < 0
        · rw [if_pos hneg] at hav hk
          simp (config := {contextual := true, maxSteps := 1000000}) (disch := omega) only [r66_0, r66_1, r66_3, r66_4, r66_5, r66_6, r66_7, r66_8_T, r66_8_F, r66_8, r66_11, r66_12, r66_15, r66_16, r66_19, r66_20_T, r66_20_F, r66_20, r66_23, r66_24, r66_25, r66_26_T, r66_26_F, r66_26, r66_29, r66_31, r66_32, r66_36, r66_38_T, r66_38_F, r66_38, r66_41, r66_42, r66_43, r66_44, r66_45, r66_47, r66_48, r66_50, r66_52, r66_53, r66_54, r66_55_T, r66_55_F, r66_55, r66_58, r66_59, r66_62, r66_63, r66_66, r66_67_T, r66_67_F, r66_67, r66_70, r66_73, r66_76, r66_77, r66_79, r66_81, r66_82, r66_83, r66_87_T, r66_87_F, r66_87, r66_90, r66_92, r66_93, r66_94, r66_95, r66_96, r66_98, r66_99, r66_101, r66_102, r66_104, r66_106, r66_107, r66_108, r66_109, r66_112, r66_113, r66_115, r66_118, r66_121, r66_122, r66_123, r66_125, r66_126, r66_127_T, r66_127_F, r66_127, r66_130, r66_131, r66_134, r66_135, r66_138, r66_139_T, r66_139_F, r66_139, r66_142, r66_144, r66_145, r66_148, r66_150, xAf_none, xAf_some, xu_app, Nat.reduceAdd, Nat.reduceSub, Nat.reduceEqDiff, Nat.reduceMul, reduceIte, and_self, and_true, true_and, and_false, false_and, true_implies, false_implies, implies_true, not_true_eq_false, not_false_eq_true, Int.reduceToNat, Int.reducePow, Int.reduceNeg, Int.reduceLT, Int.reduceLE, Int.reduceAdd, Int.reduceSub, Int.reduceMul, Int.reduceDiv, Int.reduceMod, Int.reduceEq, xA_1, xA_15, xA_255, xA_511, xA_65535, xA_32768]
          refine p_rbit W3 (by omega) (by omega) (.inr rfl) (by omega) fun f4 a4 W4 F4 => ?_
          simp (config := {contextual := true, maxSteps := 1000000}) (disch := omega) only [r66_0, r66_1, r66_3, r66_4, r66_5, r66_6, r66_7, r66_8_T, r66_8_F, r66_8, r66_11, r66_12, r66_15, r66_16, r66_19, r66_20_T, r66_20_F, r66_20, r66_23, r66_24, r66_25, r66_26_T, r66_26_F, r66_26, r66_29, r66_31, r66_32, r66_36, r66_38_T, r66_38_F, r66_38, r66_41, r66_42, r66_43, r66_44, r66_45, r66_47, r66_48, r66_50, r66_52, r66_53, r66_54, r66_55_T, r66_55_F, r66_55, r66_58, r66_59, r66_62, r66_63, r66_66, r66_67_T, r66_67_F, r66_67, r66_70, r66_73, r66_76, r66_77, r66_79, r66_81, r66_82, r66_83, r66_87_T, r66_87_F, r66_87, r66_90, r66_92, r66_93, r66_94, r66_95, r66_96, r66_98, r66_99, r66_101, r66_102, r66_104, r66_106, r66_107, r66_108, r66_109, r66_112, r66_113, r66_115, r66_118, r66_121, r66_122, r66_123, r66_125, r66_126, r66_127_T, r66_127_F, r66_127, r66_130, r66_131, r66_134, r66_135, r66_138, r66_139_T, r66_139_F, r66_139, r66_142, r66_144, r66_145, r66_148, r66_150, xAf_none, xAf_some, xu_app, Nat.reduceAdd, Nat.reduceSub, Nat.reduceEqDiff, Nat.reduceMul, reduceIte, and_self, and_true, true_and, and_false, false_and, true_implies, false_implies, implies_true, not_true_eq_false, not_false_eq_true, Int.reduceToNat, Int.reducePow, Int.reduceNeg, Int.reduceLT, Int.reduceLE, Int.reduceAdd, Int.reduceSub, Int.reduceMul, Int.reduceDiv, Int.reduceMod, Int.reduceEq, xA_1, xA_15, xA_255, xA_511, xA_65535, xA_32768]
          rw [show -av = e by omega]
          exact hk _ _ W4 (((F1.trans F2).trans F3).trans F4)
        · rw [if_neg hneg] at hav hk
          simp (config := {contextual := true, maxSteps := 1000000}) (disch := omega) only [r66_0, r66_1, r66_3, r66_4, r66_5, r66_6, r66_7, r66_8_T, r66_8_F, r66_8, r66_11, r66_12, r66_15, r66_16, r66_19, r66_20_T, r66_20_F, r66_20, r66_23, r66_24, r66_25, r66_26_T, r66_26_F, r66_26, r66_29, r66_31, r66_32, r66_36, r66_38_T, r66_38_F, r66_38, r66_41, r66_42, r66_43, r66_44, r66_45, r66_47, r66_48, r66_50, r66_52, r66_53, r66_54, r66_55_T, r66_55_F, r66_55, r66_58, r66_59, r66_62, r66_63, r66_66, r66_67_T, r66_67_F, r66_67, r66_70, r66_73, r66_76, r66_77, r66_79, r66_81, r66_82, r66_83, r66_87_T, r66_87_F, r66_87, r66_90, r66_92, r66_93, r66_94, r66_95, r66_96, r66_98, r66_99, r66_101, r66_102, r66_104, r66_106, r66_107, r66_108, r66_109, r66_112, r66_113, r66_115, r66_118, r66_121, r66_122, r66_123, r66_125, r66_126, r66_127_T, r66_127_F, r66_127, r66_130, r66_131, r66_134, r66_135, r66_138, r66_139_T, r66_139_F, r66_139, r66_142, r66_144, r66_145, r66_148, r66_150, xAf_none, xAf_some, xu_app, Nat.reduceAdd, Nat.reduceSub, Nat.reduceEqDiff, Nat.reduceMul, reduceIte, and_self, and_true, true_and, and_false, false_and, true_implies, false_implies, implies_true, not_true_eq_false, not_false_eq_true, Int.reduceToNat, Int.reducePow, Int.reduceNeg, Int.reduceLT, Int.reduceLE, Int.reduceAdd, Int.reduceSub, Int.reduceMul, Int.reduceDiv, Int.reduceMod, Int.reduceEq, xA_1, xA_15, xA_255, xA_511, xA_65535, xA_32768]
          refine p_rbit W3 (by omega) (by omega) (.inl rfl) (by omega) fun f4 a4 W4 F4 => ?_
          simp (config := {contextual := true, maxSteps := 1000000}) (disch := omega) only [r66_0, r66_1, r66_3, r66_4, r66_5, r66_6, r66_7, r66_8_T, r66_8_F, r66_8, r66_11, r66_12, r66_15, r66_16, r66_19, r66_20_T, r66_20_F, r66_20, r66_23, r66_24, r66_25, r66_26_T, r66_26_F, r66_26, r66_29, r66_31, r66_32, r66_36, r66_38_T, r66_38_F, r66_38, r66_41, r66_42, r66_43, r66_44, r66_45, r66_47, r66_48, r66_50, r66_52, r66_53, r66_54, r66_55_T, r66_55_F, r66_55, r66_58, r66_59, r66_62, r66_63, r66_66, r66_67_T, r66_67_F, r66_67, r66_70, r66_73, r66_76, r66_77, r66_79, r66_81, r66_82, r66_83, r66_87_T, r66_87_F, r66_87, r66_90, r66_92, r66_93, r66_94, r66_95, r66_96, r66_98, r66_99, r66_101, r66_102, r66_104, r66_106, r66_107, r66_108, r66_109, r66_112, r66_113, r66_115, r66_118, r66_121, r66_122, r66_123, r66_125, r66_126, r66_127_T, r66_127_F, r66_127, r66_130, r66_131, r66_134, r66_135, r66_138, r66_139_T, r66_139_F, r66_139, r66_142, r66_144, r66_145, r66_148, r66_150, xAf_none, xAf_some, xu_app, Nat.reduceAdd, Nat.reduceSub, Nat.reduceEqDiff, Nat.reduceMul, reduceIte, and_self, and_true, true_and, and_false, false_and, true_implies, false_implies, implies_true, not_true_eq_false, not_false_eq_true, Int.reduceToNat, Int.reducePow, Int.reduceNeg, Int.reduceLT, Int.reduceLE, Int.reduceAdd, Int.reduceSub, Int.reduceMul, Int.reduceDiv, Int.reduceMod, Int.reduceEq, xA_1, xA_15, xA_255, xA_511, xA_65535, xA_32768]
          rw [show av = e by omega]
          exact hk _ _ W4 (((F1.trans F2).trans F3).trans F4)
    by_cases hneg : e < 0
    · rw [if_pos hneg] at hav
      simp (config := {contextual := true, maxSteps := 1000000}) (disch := omega) only [r66_0, r66_1, r66_3, r66_4, r66_5, r66_6, r66_7, r66_8_T, r66_8_F, r66_8, r66_11, r66_12, r66_15, r66_16, r66_19, r66_20_T, r66_20_F, r66_20, r66_23, r66_24, r66_25, r66_26_T, r66_26_F, r66_26, r66_29, r66_31, r66_32, r66_36, r66_38_T, r66_38_F, r66_38, r66_41, r66_42, r66_43, r66_44, r66_45, r66_47, r66_48, r66_50, r66_52, r66_53, r66_54, r66_55_T, r66_55_F, r66_55, r66_58, r66_59, r66_62, r66_63, r66_66, r66_67_T, r66_67_F, r66_67, r66_70, r66_73, r66_76, r66_77, r66_79, r66_81, r66_82, r66_83, r66_87_T, r66_87_F, r66_87, r66_90, r66_92, r66_93, r66_94, r66_95, r66_96, r66_98, r66_99, r66_101, r66_102, r66_104, r66_106, r66_107, r66_108, r66_109, r66_112, r66_113, r66_115, r66_118, r66_121, r66_122, r66_123, r66_125, r66_126, r66_127_T, r66_127_F, r66_127, r66_130, r66_131, r66_134, r66_135, r66_138, r66_139_T, r66_139_F, r66_139, r66_142, r66_144, r66_145, r66_148, r66_150, xAf_none, xAf_some, xu_app, Nat.reduceAdd, Nat.reduceSub, Nat.reduceEqDiff, Nat.reduceMul, reduceIte, and_self, and_true, true_and, and_false, false_and, true_implies, false_implies, implies_true, not_true_eq_false, not_false_eq_true, Int.reduceToNat, Int.reducePow, Int.reduceNeg, Int.reduceLT, Int.reduceLE, Int.reduceAdd, Int.reduceSub, Int.reduceMul, Int.reduceDiv, Int.reduceMod, Int.reduceEq, xA_1, xA_15, xA_255, xA_511, xA_65535, xA_32768]
      rw [hav]; exact go
    · rw [if_neg hneg] at hav
      simp (config := {contextual := true, maxSteps := 1000000}) (disch := omega) only [r66_0, r66_1, r66_3, r66_4, r66_5, r66_6, r66_7, r66_8_T, r66_8_F, r66_8, r66_11, r66_12, r66_15, r66_16, r66_19, r66_20_T, r66_20_F, r66_20, r66_23, r66_24, r66_25, r66_26_T, r66_26_F, r66_26, r66_29, r66_31, r66_32, r66_36, r66_38_T, r66_38_F, r66_38, r66_41, r66_42, r66_43, r66_44, r66_45, r66_47, r66_48, r66_50, r66_52, r66_53, r66_54, r66_55_T, r66_55_F, r66_55, r66_58, r66_59, r66_62, r66_63, r66_66, r66_67_T, r66_67_F, r66_67, r66_70, r66_73, r66_76, r66_77, r66_79, r66_81, r66_82, r66_83, r66_87_T, r66_87_F, r66_87, r66_90, r66_92, r66_93, r66_94, r66_95, r66_96, r66_98, r66_99, r66_101, r66_102, r66_104, r66_106, r66_107, r66_108, r66_109, r66_112, r66_113, r66_115, r66_118, r66_121, r66_122, r66_123, r66_125, r66_126, r66_127_T, r66_127_F, r66_127, r66_130, r66_131, r66_134, r66_135, r66_138, r66_139_T, r66_139_F, r66_139, r66_142, r66_144, r66_145, r66_148, r66_150, xAf_none, xAf_some, xu_app, Nat.reduceAdd, Nat.reduceSub, Nat.reduceEqDiff, Nat.reduceMul, reduceIte, and_self, and_true, true_and, and_false, false_and, true_implies, false_implies, implies_true, not_true_eq_false, not_false_eq_true, Int.reduceToNat, Int.reducePow, Int.reduceNeg, Int.reduceLT, Int.reduceLE, Int.reduceAdd, Int.reduceSub, Int.reduceMul, Int.reduceDiv, Int.reduceMod, Int.reduceEq, xA_1, xA_15, xA_255, xA_511, xA_65535, xA_32768]
      subst hav; exact go
end S43
