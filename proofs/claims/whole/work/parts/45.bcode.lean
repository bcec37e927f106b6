/-! MODE 0: A DIFFERENCE IS WRITTEN -/
def bL (σ : bS) (c e : Int) : bS :=
  if σ.2.1 c + 1 = 16 then (vset σ.1 c ((σ.1 c + (if e < 0 then -e else e)) / 2), vset σ.2.1 c 8, σ.2.2)
  else (vset σ.1 c (σ.1 c + (if e < 0 then -e else e)), vset σ.2.1 c (σ.2.1 c + 1), σ.2.2)
def bZ (σ : bS) : Nat → bS
  | 0 => σ
  | r + 1 => bZ (bw σ 0) r
def bD (σ : bS) (m : Int) : Nat → bS
  | 0 => σ
  | i + 1 => bD (bw σ (m / 2 ^ i % 2)) m i
def zig (e : Int) : Int := if e < 0 then -2 * e - 1 else 2 * e
def bE (σ : bS) (c e : Int) : bS :=
  if zig e / 2 ^ low (σ.1 c) (σ.2.1 c) < 12 then bL (bD (bw (bZ σ (zig e / 2 ^ low (σ.1 c) (σ.2.1 c)).toNat) 1) (zig e) (low (σ.1 c) (σ.2.1 c))) c e
  else bL (bD (bZ σ 12) (zig e) 9) c e
theorem bL_C {σ : bS} (h : bC σ) {c e : Int} (e0 : -256 ≤ e) (e1 : e ≤ 256) : bC (bL σ c e) := by
  intro j
  have hj := h j
  have hc := h c
  unfold bL
  split <;> dsimp only <;> unfold vset <;> split <;> (try split) <;> omega
theorem bL_I {σ : bS} (h : bI σ) {c e : Int} (e0 : -256 ≤ e) (e1 : e ≤ 256) : bI (bL σ c e) := by
  refine ⟨bL_C h.1 e0 e1, ?_⟩
  unfold bL; split <;> exact h.2
theorem bw_12 (σ : bS) (b : Int) : (bw σ b).1 = σ.1 ∧ (bw σ b).2.1 = σ.2.1 := by unfold bw; split <;> exact ⟨rfl, rfl⟩
theorem bZ_12 (r : Nat) : ∀ σ : bS, (bZ σ r).1 = σ.1 ∧ (bZ σ r).2.1 = σ.2.1 := by
  induction r with
  | zero => intro σ; exact ⟨rfl, rfl⟩
  | succ r ih => intro σ; have h1 := ih (bw σ 0); have h2 := bw_12 σ 0; exact ⟨h1.1.trans h2.1, h1.2.trans h2.2⟩
theorem bD_12 {m : Int} (r : Nat) : ∀ σ : bS, (bD σ m r).1 = σ.1 ∧ (bD σ m r).2.1 = σ.2.1 := by
  induction r with
  | zero => intro σ; exact ⟨rfl, rfl⟩
  | succ r ih => intro σ; have h1 := ih (bw σ (m / 2 ^ r % 2)); have h2 := bw_12 σ (m / 2 ^ r % 2); exact ⟨h1.1.trans h2.1, h1.2.trans h2.2⟩
theorem bZ_I (r : Nat) : ∀ {σ : bS}, bI σ → bI (bZ σ r) := by
  induction r with
  | zero => intro σ h; exact h
  | succ r ih => intro σ h; exact ih (bw_I h (.inl rfl))
theorem bD_I {m : Int} (r : Nat) : ∀ {σ : bS}, bI σ → bI (bD σ m r) := by
  induction r with
  | zero => intro σ h; exact h
  | succ r ih => intro σ h; exact ih (bw_I h (by omega))
theorem bE_I {σ : bS} (h : bI σ) {c e : Int} (e0 : -256 ≤ e) (e1 : e ≤ 256) : bI (bE σ c e) := by
  unfold bE; split
  · exact bL_I (bD_I _ (bw_I (bZ_I _ h) (.inr rfl))) e0 e1
  · exact bL_I (bD_I _ (bZ_I _ h)) e0 e1
section S45
variable {d : Nat} {Q : xm_H × Outcome → Prop} {g : xG} {c e k m z w : Int} {A : List Int} {l6 l7 l8 : Value}
theorem p_learn {f : Nat → Nat → Int} {a : Nat → Int → Int} {σ : bS} (hT : ∀ j, 0 ≤ j → j < 126 → a 15 j = σ.1 j ∧ a 16 j = σ.2.1 j) (hC : bC σ) (c0 : 0 ≤ c) (c1 : c < 126) (e0 : -256 ≤ e) (e1 : e ≤ 256) (hd : 1 ≤ d) (hk : ∀ a', (∀ j, 0 ≤ j → j < 126 → a' 15 j = (bL σ c e).1 j ∧ a' 16 j = (bL σ c e).2.1 j) → (∀ i, i ≠ 15 → i ≠ 16 → a' i = a i) → Q (hh f a' g, .returned none)) : xTC d 62 [.ref 14, .int (xI c), .int (xI e)] (hh f a g) Q := by
  have hc := hC c
  have hTc := hT c c0 c1
  have h15 := hTc.1
  have h16 := hTc.2
  rw [e62]
  unfold bL at hk
  by_cases h : σ.2.1 c + 1 = 16
  · rw [if_pos h] at hk
    by_cases hn : e < 0
    · rw [if_pos hn] at hk
      simp (config := {contextual := true, maxSteps := 1000000}) (disch := omega) only [r62_0, r62_1, r62_4, r62_5, r62_6, r62_7, r62_8_T, r62_8_F, r62_8, r62_11, r62_12, r62_13, r62_14, r62_17, r62_18, r62_19, r62_20, r62_21, r62_22, r62_23, r62_24, r62_27, r62_28, r62_29, r62_31_T, r62_31_F, r62_31, r62_34, r62_35, r62_38, r62_39, r62_41, r62_42, r62_43, r62_46, r62_47, r62_48, r62_49, r62_50, r62_51, r62_52, h15, h16, xw_app, xAf_none, xAf_some, xu_app, Nat.reduceAdd, Nat.reduceSub, Nat.reduceEqDiff, Nat.reduceMul, reduceIte, and_self, and_true, true_and, and_false, false_and, true_implies, false_implies, implies_true, not_true_eq_false, not_false_eq_true, Int.reduceToNat, Int.reducePow, Int.reduceNeg, Int.reduceLT, Int.reduceLE, Int.reduceAdd, Int.reduceSub, Int.reduceMul, Int.reduceDiv, Int.reduceMod, Int.reduceEq, xA_1, xA_15, xA_255, xA_511, xA_65535, xA_32768]
      refine hk _ (fun j j0 j1 => ?_) (fun i i1 i2 => by rw [xw_ne _ i1, xw_ne _ i2, xw_ne _ i2, xw_ne _ i1])
      have hj := hT j j0 j1
      simp only [xw_app, vset]
      by_cases hjc : j = c <;> simp [hjc, hj.1, hj.2]
    · rw [if_neg hn] at hk
      simp (config := {contextual := true, maxSteps := 1000000}) (disch := omega) only [r62_0, r62_1, r62_4, r62_5, r62_6, r62_7, r62_8_T, r62_8_F, r62_8, r62_11, r62_12, r62_13, r62_14, r62_17, r62_18, r62_19, r62_20, r62_21, r62_22, r62_23, r62_24, r62_27, r62_28, r62_29, r62_31_T, r62_31_F, r62_31, r62_34, r62_35, r62_38, r62_39, r62_41, r62_42, r62_43, r62_46, r62_47, r62_48, r62_49, r62_50, r62_51, r62_52, h15, h16, xw_app, xAf_none, xAf_some, xu_app, Nat.reduceAdd, Nat.reduceSub, Nat.reduceEqDiff, Nat.reduceMul, reduceIte, and_self, and_true, true_and, and_false, false_and, true_implies, false_implies, implies_true, not_true_eq_false, not_false_eq_true, Int.reduceToNat, Int.reducePow, Int.reduceNeg, Int.reduceLT, Int.reduceLE, Int.reduceAdd, Int.reduceSub, Int.reduceMul, Int.reduceDiv, Int.reduceMod, Int.reduceEq, xA_1, xA_15, xA_255, xA_511, xA_65535, xA_32768]
      refine hk _ (fun j j0 j1 => ?_) (fun i i1 i2 => by rw [xw_ne _ i1, xw_ne _ i2, xw_ne _ i2, xw_ne _ i1])
      have hj := hT j j0 j1
      simp only [xw_app, vset]
      by_cases hjc : j = c <;> simp [hjc, hj.1, hj.2]
  · rw [if_neg h] at hk
    by_cases hn : e < 0
    · rw [if_pos hn] at hk
      simp (config := {contextual := true, maxSteps := 1000000}) (disch := omega) only [r62_0, r62_1, r62_4, r62_5, r62_6, r62_7, r62_8_T, r62_8_F, r62_8, r62_11, r62_12, r62_13, r62_14, r62_17, r62_18, r62_19, r62_20, r62_21, r62_22, r62_23, r62_24, r62_27, r62_28, r62_29, r62_31_T, r62_31_F, r62_31, r62_34, r62_35, r62_38, r62_39, r62_41, r62_42, r62_43, r62_46, r62_47, r62_48, r62_49, r62_50, r62_51, r62_52, h15, h16, xw_app, xAf_none, xAf_some, xu_app, Nat.reduceAdd, Nat.reduceSub, Nat.reduceEqDiff, Nat.reduceMul, reduceIte, and_self, and_true, true_and, and_false, false_and, true_implies, false_implies, implies_true, not_true_eq_false, not_false_eq_true, Int.reduceToNat, Int.reducePow, Int.reduceNeg, Int.reduceLT, Int.reduceLE, Int.reduceAdd, Int.reduceSub, Int.reduceMul, Int.reduceDiv, Int.reduceMod, Int.reduceEq, xA_1, xA_15, xA_255, xA_511, xA_65535, xA_32768]
      refine hk _ (fun j j0 j1 => ?_) (fun i i1 i2 => by rw [xw_ne _ i2, xw_ne _ i1])
      have hj := hT j j0 j1
      simp only [xw_app, vset]
      by_cases hjc : j = c <;> simp [hjc, hj.1, hj.2]
    · rw [if_neg hn] at hk
      simp (config := {contextual := true, maxSteps := 1000000}) (disch := omega) only [r62_0, r62_1, r62_4, r62_5, r62_6, r62_7, r62_8_T, r62_8_F, r62_8, r62_11, r62_12, r62_13, r62_14, r62_17, r62_18, r62_19, r62_20, r62_21, r62_22, r62_23, r62_24, r62_27, r62_28, r62_29, r62_31_T, r62_31_F, r62_31, r62_34, r62_35, r62_38, r62_39, r62_41, r62_42, r62_43, r62_46, r62_47, r62_48, r62_49, r62_50, r62_51, r62_52, h15, h16, xw_app, xAf_none, xAf_some, xu_app, Nat.reduceAdd, Nat.reduceSub, Nat.reduceEqDiff, Nat.reduceMul, reduceIte, and_self, and_true, true_and, and_false, false_and, true_implies, false_implies, implies_true, not_true_eq_false, not_false_eq_true, Int.reduceToNat, Int.reducePow, Int.reduceNeg, Int.reduceLT, Int.reduceLE, Int.reduceAdd, Int.reduceSub, Int.reduceMul, Int.reduceDiv, Int.reduceMod, Int.reduceEq, xA_1, xA_15, xA_255, xA_511, xA_65535, xA_32768]
      refine hk _ (fun j j0 j1 => ?_) (fun i i1 i2 => by rw [xw_ne _ i2, xw_ne _ i1])
      have hj := hT j j0 j1
      simp only [xw_app, vset]
      by_cases hjc : j = c <;> simp [hjc, hj.1, hj.2]
set_option maxRecDepth 100000 in
/-- r zeros, then the 1 -/
theorem l_bz1 {k : Nat} (hk8 : k ≤ 8) (m0 : 0 ≤ m) (m1 : m ≤ 511) (hw : m / 2 ^ k < 12) (hd : 3 ≤ d) (r : Nat) : ∀ (σ : bS) (f : Nat → Nat → Int) (a : Nat → Int → Int) (i : Int), 0 ≤ i → i + r = m / 2 ^ k → xW0 f a A σ →
    (∀ f' a', xW0 f' a' A (bw (bZ σ r) 1) → xFc f a f' a' → xT d 60 61 [.ref 14, .int (xI c), .int (xI e), .int (xI (k : Int)), .int (xI m), .int (xI (m / 2 ^ k)), l6, l7, l8] [] (hh f' a' g) Q) →
    xT d 60 27 [.ref 14, .int (xI c), .int (xI e), .int (xI (k : Int)), .int (xI m), .int (xI i), l6, l7, l8] [] (hh f a g) Q := by
  have et : ((k : Int)).toNat = k := by omega
  induction r with
  | zero =>
    intro σ f a i i0 hi hW hk
    have hi' : i = m / 2 ^ k := by omega
    subst hi'
    rw [r60_27]
    simp (config := {contextual := true, maxSteps := 1000000}) (disch := omega) only [r60_0, r60_1, r60_2, r60_5, r60_6, r60_7_T, r60_7_F, r60_7, r60_10, r60_12, r60_13, r60_14, r60_15, r60_16, r60_19, r60_20, r60_21, r60_22, r60_24, r60_25, r60_29, r60_31_T, r60_31_F, r60_31, r60_34, r60_35, r60_37, r60_39, r60_40, r60_41_T, r60_41_F, r60_41, r60_44, r60_45, r60_48, r60_49, r60_52_T, r60_52_F, r60_52, r60_55, r60_58, r60_61, r60_63, r60_65_T, r60_65_F, r60_65, r60_68, r60_69, r60_72, r60_73, r60_75, r60_77_T, r60_77_F, r60_77, r60_80, r60_81, r60_84, r60_86, r60_88, r60_90_T, r60_90_F, r60_90, r60_93, r60_95, r60_98, r60_99, r60_100, r60_101, r60_105_T, r60_105_F, r60_105, r60_108, r60_110, r60_111, r60_112, r60_113, r60_115, r60_117, r60_118, r60_119, r60_120, r60_123, r60_124, r60_126, r60_129, r60_132, r60_134, r60_137, r60_138, r60_140, r60_142, r60_143, r60_144_T, r60_144_F, r60_144, r60_147, r60_149, r60_150, r60_151, r60_154, r60_156, r60_157, r60_158, r60_159, r60_160, r60_161, r60_163, r60_164, r60_165, r60_167, r60_170, r60_172, et, xAf_none, xAf_some, xu_app, Nat.reduceAdd, Nat.reduceSub, Nat.reduceEqDiff, Nat.reduceMul, reduceIte, and_self, and_true, true_and, and_false, false_and, true_implies, false_implies, implies_true, not_true_eq_false, not_false_eq_true, Int.reduceToNat, Int.reducePow, Int.reduceNeg, Int.reduceLT, Int.reduceLE, Int.reduceAdd, Int.reduceSub, Int.reduceMul, Int.reduceDiv, Int.reduceMod, Int.reduceEq, xA_1, xA_15, xA_255, xA_511, xA_65535, xA_32768]
    refine p_bbit hW (.inr rfl) (by omega) fun f1 a1 W1 F1 => ?_
    simp (config := {contextual := true, maxSteps := 1000000}) (disch := omega) only [r60_0, r60_1, r60_2, r60_5, r60_6, r60_7_T, r60_7_F, r60_7, r60_10, r60_12, r60_13, r60_14, r60_15, r60_16, r60_19, r60_20, r60_21, r60_22, r60_24, r60_25, r60_29, r60_31_T, r60_31_F, r60_31, r60_34, r60_35, r60_37, r60_39, r60_40, r60_41_T, r60_41_F, r60_41, r60_44, r60_45, r60_48, r60_49, r60_52_T, r60_52_F, r60_52, r60_55, r60_58, r60_63, r60_65_T, r60_65_F, r60_65, r60_68, r60_69, r60_72, r60_73, r60_75, r60_77_T, r60_77_F, r60_77, r60_80, r60_81, r60_84, r60_86, r60_88, r60_90_T, r60_90_F, r60_90, r60_93, r60_95, r60_98, r60_99, r60_100, r60_101, r60_105_T, r60_105_F, r60_105, r60_108, r60_110, r60_111, r60_112, r60_113, r60_115, r60_117, r60_118, r60_119, r60_120, r60_123, r60_124, r60_126, r60_129, r60_132, r60_134, r60_137, r60_138, r60_140, r60_142, r60_143, r60_144_T, r60_144_F, r60_144, r60_147, r60_149, r60_150, r60_151, r60_154, r60_156, r60_157, r60_158, r60_159, r60_160, r60_161, r60_163, r60_164, r60_165, r60_167, r60_170, r60_172, xAf_none, xAf_some, xu_app, Nat.reduceAdd, Nat.reduceSub, Nat.reduceEqDiff, Nat.reduceMul, reduceIte, and_self, and_true, true_and, and_false, false_and, true_implies, false_implies, implies_true, not_true_eq_false, not_false_eq_true, Int.reduceToNat, Int.reducePow, Int.reduceNeg, Int.reduceLT, Int.reduceLE, Int.reduceAdd, Int.reduceSub, Int.reduceMul, Int.reduceDiv, Int.reduceMod, Int.reduceEq, xA_1, xA_15, xA_255, xA_511, xA_65535, xA_32768]
    exact hk _ _ W1 F1
  | succ r ih =>
    intro σ f a i i0 hi hW hk
    rw [r60_27]
    simp (config := {contextual := true, maxSteps := 1000000}) (disch := omega) only [r60_0, r60_1, r60_2, r60_5, r60_6, r60_7_T, r60_7_F, r60_7, r60_10, r60_12, r60_13, r60_14, r60_15, r60_16, r60_19, r60_20, r60_21, r60_22, r60_24, r60_25, r60_29, r60_31_T, r60_31_F, r60_31, r60_34, r60_35, r60_37, r60_39, r60_40, r60_41_T, r60_41_F, r60_41, r60_44, r60_45, r60_48, r60_49, r60_52_T, r60_52_F, r60_52, r60_55, r60_58, r60_61, r60_63, r60_65_T, r60_65_F, r60_65, r60_68, r60_69, r60_72, r60_73, r60_75, r60_77_T, r60_77_F, r60_77, r60_80, r60_81, r60_84, r60_86, r60_88, r60_90_T, r60_90_F, r60_90, r60_93, r60_95, r60_98, r60_99, r60_100, r60_101, r60_105_T, r60_105_F, r60_105, r60_108, r60_110, r60_111, r60_112, r60_113, r60_115, r60_117, r60_118, r60_119, r60_120, r60_123, r60_124, r60_126, r60_129, r60_132, r60_134, r60_137, r60_138, r60_140, r60_142, r60_143, r60_144_T, r60_144_F, r60_144, r60_147, r60_149, r60_150, r60_151, r60_154, r60_156, r60_157, r60_158, r60_159, r60_160, r60_161, r60_163, r60_164, r60_165, r60_167, r60_170, r60_172, et, xAf_none, xAf_some, xu_app, Nat.reduceAdd, Nat.reduceSub, Nat.reduceEqDiff, Nat.reduceMul, reduceIte, and_self, and_true, true_and, and_false, false_and, true_implies, false_implies, implies_true, not_true_eq_false, not_false_eq_true, Int.reduceToNat, Int.reducePow, Int.reduceNeg, Int.reduceLT, Int.reduceLE, Int.reduceAdd, Int.reduceSub, Int.reduceMul, Int.reduceDiv, Int.reduceMod, Int.reduceEq, xA_1, xA_15, xA_255, xA_511, xA_65535, xA_32768]
    refine p_bbit hW (.inl rfl) (by omega) fun f1 a1 W1 F1 => ?_
    simp (config := {contextual := true, maxSteps := 1000000}) (disch := omega) only [r60_0, r60_1, r60_2, r60_5, r60_6, r60_7_T, r60_7_F, r60_7, r60_10, r60_12, r60_13, r60_14, r60_15, r60_16, r60_19, r60_20, r60_21, r60_22, r60_24, r60_25, r60_29, r60_31_T, r60_31_F, r60_31, r60_34, r60_35, r60_37, r60_39, r60_40, r60_41_T, r60_41_F, r60_41, r60_44, r60_45, r60_48, r60_49, r60_52_T, r60_52_F, r60_52, r60_55, r60_58, r60_61, r60_63, r60_65_T, r60_65_F, r60_65, r60_68, r60_69, r60_72, r60_73, r60_75, r60_77_T, r60_77_F, r60_77, r60_80, r60_81, r60_84, r60_86, r60_88, r60_90_T, r60_90_F, r60_90, r60_93, r60_95, r60_98, r60_99, r60_100, r60_101, r60_105_T, r60_105_F, r60_105, r60_108, r60_110, r60_111, r60_112, r60_113, r60_115, r60_117, r60_118, r60_119, r60_120, r60_123, r60_124, r60_126, r60_129, r60_132, r60_134, r60_137, r60_138, r60_140, r60_142, r60_143, r60_144_T, r60_144_F, r60_144, r60_147, r60_149, r60_150, r60_151, r60_154, r60_156, r60_157, r60_158, r60_159, r60_160, r60_161, r60_163, r60_164, r60_165, r60_167, r60_170, r60_172, xAf_none, xAf_some, xu_app, Nat.reduceAdd, Nat.reduceSub, Nat.reduceEqDiff, Nat.reduceMul, reduceIte, and_self, and_true, true_and, and_false, false_and, true_implies, false_implies, implies_true, not_true_eq_false, not_false_eq_true, Int.reduceToNat, Int.reducePow, Int.reduceNeg, Int.reduceLT, Int.reduceLE, Int.reduceAdd, Int.reduceSub, Int.reduceMul, Int.reduceDiv, Int.reduceMod, Int.reduceEq, xA_1, xA_15, xA_255, xA_511, xA_65535, xA_32768]
    exact ih _ f1 a1 (i + 1) (by omega) (by omega) W1 fun f2 a2 W2 F2 => hk _ _ W2 (F1.trans F2)
set_option maxRecDepth 100000 in
/-- twelve zeros -/
theorem l_bz12 {k : Nat} (hk8 : k ≤ 8) (m0 : 0 ≤ m) (m1 : m ≤ 511) (hw : ¬ m / 2 ^ k < 12) (hd : 3 ≤ d) (r : Nat) : ∀ (σ : bS) (f : Nat → Nat → Int) (a : Nat → Int → Int) (i : Int), 0 ≤ i → i + r = 12 → xW0 f a A σ →
    (∀ f' a', xW0 f' a' A (bZ σ r) → xFc f a f' a' → xT d 60 61 [.ref 14, .int (xI c), .int (xI e), .int (xI (k : Int)), .int (xI m), .int (xI 12), l6, l7, l8] [] (hh f' a' g) Q) →
    xT d 60 27 [.ref 14, .int (xI c), .int (xI e), .int (xI (k : Int)), .int (xI m), .int (xI i), l6, l7, l8] [] (hh f a g) Q := by
  have et : ((k : Int)).toNat = k := by omega
  have hbd := div_bound m0 k
  induction r with
  | zero =>
    intro σ f a i i0 hi hW hk
    have hi' : i = 12 := by omega
    subst hi'
    rw [r60_27]
    simp (config := {contextual := true, maxSteps := 1000000}) (disch := omega) only [r60_0, r60_1, r60_2, r60_5, r60_6, r60_7_T, r60_7_F, r60_7, r60_10, r60_12, r60_13, r60_14, r60_15, r60_16, r60_19, r60_20, r60_21, r60_22, r60_24, r60_25, r60_29, r60_31_T, r60_31_F, r60_31, r60_34, r60_35, r60_37, r60_39, r60_40, r60_41_T, r60_41_F, r60_41, r60_44, r60_45, r60_48, r60_49, r60_52_T, r60_52_F, r60_52, r60_55, r60_58, r60_63, r60_65_T, r60_65_F, r60_65, r60_68, r60_69, r60_72, r60_73, r60_75, r60_77_T, r60_77_F, r60_77, r60_80, r60_81, r60_84, r60_86, r60_88, r60_90_T, r60_90_F, r60_90, r60_93, r60_95, r60_98, r60_99, r60_100, r60_101, r60_105_T, r60_105_F, r60_105, r60_108, r60_110, r60_111, r60_112, r60_113, r60_115, r60_117, r60_118, r60_119, r60_120, r60_123, r60_124, r60_126, r60_129, r60_132, r60_134, r60_137, r60_138, r60_140, r60_142, r60_143, r60_144_T, r60_144_F, r60_144, r60_147, r60_149, r60_150, r60_151, r60_154, r60_156, r60_157, r60_158, r60_159, r60_160, r60_161, r60_163, r60_164, r60_165, r60_167, r60_170, r60_172, et, xAf_none, xAf_some, xu_app, Nat.reduceAdd, Nat.reduceSub, Nat.reduceEqDiff, Nat.reduceMul, reduceIte, and_self, and_true, true_and, and_false, false_and, true_implies, false_implies, implies_true, not_true_eq_false, not_false_eq_true, Int.reduceToNat, Int.reducePow, Int.reduceNeg, Int.reduceLT, Int.reduceLE, Int.reduceAdd, Int.reduceSub, Int.reduceMul, Int.reduceDiv, Int.reduceMod, Int.reduceEq, xA_1, xA_15, xA_255, xA_511, xA_65535, xA_32768]
    exact hk _ _ hW (xFc.refl _ _)
  | succ r ih =>
    intro σ f a i i0 hi hW hk
    rw [r60_27]
    simp (config := {contextual := true, maxSteps := 1000000}) (disch := omega) only [r60_0, r60_1, r60_2, r60_5, r60_6, r60_7_T, r60_7_F, r60_7, r60_10, r60_12, r60_13, r60_14, r60_15, r60_16, r60_19, r60_20, r60_21, r60_22, r60_24, r60_25, r60_29, r60_31_T, r60_31_F, r60_31, r60_34, r60_35, r60_37, r60_39, r60_40, r60_41_T, r60_41_F, r60_41, r60_44, r60_45, r60_48, r60_49, r60_52_T, r60_52_F, r60_52, r60_55, r60_58, r60_61, r60_63, r60_65_T, r60_65_F, r60_65, r60_68, r60_69, r60_72, r60_73, r60_75, r60_77_T, r60_77_F, r60_77, r60_80, r60_81, r60_84, r60_86, r60_88, r60_90_T, r60_90_F, r60_90, r60_93, r60_95, r60_98, r60_99, r60_100, r60_101, r60_105_T, r60_105_F, r60_105, r60_108, r60_110, r60_111, r60_112, r60_113, r60_115, r60_117, r60_118, r60_119, r60_120, r60_123, r60_124, r60_126, r60_129, r60_132, r60_134, r60_137, r60_138, r60_140, r60_142, r60_143, r60_144_T, r60_144_F, r60_144, r60_147, r60_149, r60_150, r60_151, r60_154, r60_156, r60_157, r60_158, r60_159, r60_160, r60_161, r60_163, r60_164, r60_165, r60_167, r60_170, r60_172, et, xAf_none, xAf_some, xu_app, Nat.reduceAdd, Nat.reduceSub, Nat.reduceEqDiff, Nat.reduceMul, reduceIte, and_self, and_true, true_and, and_false, false_and, true_implies, false_implies, implies_true, not_true_eq_false, not_false_eq_true, Int.reduceToNat, Int.reducePow, Int.reduceNeg, Int.reduceLT, Int.reduceLE, Int.reduceAdd, Int.reduceSub, Int.reduceMul, Int.reduceDiv, Int.reduceMod, Int.reduceEq, xA_1, xA_15, xA_255, xA_511, xA_65535, xA_32768]
    refine p_bbit hW (.inl rfl) (by omega) fun f1 a1 W1 F1 => ?_
    simp (config := {contextual := true, maxSteps := 1000000}) (disch := omega) only [r60_0, r60_1, r60_2, r60_5, r60_6, r60_7_T, r60_7_F, r60_7, r60_10, r60_12, r60_13, r60_14, r60_15, r60_16, r60_19, r60_20, r60_21, r60_22, r60_24, r60_25, r60_29, r60_31_T, r60_31_F, r60_31, r60_34, r60_35, r60_37, r60_39, r60_40, r60_41_T, r60_41_F, r60_41, r60_44, r60_45, r60_48, r60_49, r60_52_T, r60_52_F, r60_52, r60_55, r60_58, r60_61, r60_63, r60_65_T, r60_65_F, r60_65, r60_68, r60_69, r60_72, r60_73, r60_75, r60_77_T, r60_77_F, r60_77, r60_80, r60_81, r60_84, r60_86, r60_88, r60_90_T, r60_90_F, r60_90, r60_93, r60_95, r60_98, r60_99, r60_100, r60_101, r60_105_T, r60_105_F, r60_105, r60_108, r60_110, r60_111, r60_112, r60_113, r60_115, r60_117, r60_118, r60_119, r60_120, r60_123, r60_124, r60_126, r60_129, r60_132, r60_134, r60_137, r60_138, r60_140, r60_142, r60_143, r60_144_T, r60_144_F, r60_144, r60_147, r60_149, r60_150, r60_151, r60_154, r60_156, r60_157, r60_158, r60_159, r60_160, r60_161, r60_163, r60_164, r60_165, r60_167, r60_170, r60_172, xAf_none, xAf_some, xu_app, Nat.reduceAdd, Nat.reduceSub, Nat.reduceEqDiff, Nat.reduceMul, reduceIte, and_self, and_true, true_and, and_false, false_and, true_implies, false_implies, implies_true, not_true_eq_false, not_false_eq_true, Int.reduceToNat, Int.reducePow, Int.reduceNeg, Int.reduceLT, Int.reduceLE, Int.reduceAdd, Int.reduceSub, Int.reduceMul, Int.reduceDiv, Int.reduceMod, Int.reduceEq, xA_1, xA_15, xA_255, xA_511, xA_65535, xA_32768]
    exact ih _ f1 a1 (i + 1) (by omega) (by omega) W1 fun f2 a2 W2 F2 => hk _ _ W2 (F1.trans F2)
set_option maxRecDepth 100000 in
theorem l_bdn (m0 : 0 ≤ m) (m1 : m ≤ 511) (hd : 3 ≤ d) (r : Nat) : ∀ (σ : bS) (f : Nat → Nat → Int) (a : Nat → Int → Int), r ≤ 9 → xW0 f a A σ →
    (∀ f' a', xW0 f' a' A (bD σ m r) → xFc f a f' a' → xT d 60 132 [.ref 14, .int (xI c), .int (xI e), .int (xI k), .int (xI m), .int (xI z), .int (xI w), .int (xI m), .int (xI (-1))] [] (hh f' a' g) Q) →
    xT d 60 103 [.ref 14, .int (xI c), .int (xI e), .int (xI k), .int (xI m), .int (xI z), .int (xI w), .int (xI (m / 2 ^ r)), .int (xI ((r : Int) - 1))] [] (hh f a g) Q := by
  induction r with
  | zero =>
    intro σ f a hr hW hk
    rw [r60_103]
    have e0 : ((0 : Nat) : Int) - 1 = -1 := by omega
    have e1 : m / 2 ^ 0 = m := by simp
    rw [e0, e1]
    simp (config := {contextual := true, maxSteps := 1000000}) (disch := omega) only [r60_0, r60_1, r60_2, r60_5, r60_6, r60_7_T, r60_7_F, r60_7, r60_10, r60_12, r60_13, r60_14, r60_15, r60_16, r60_19, r60_20, r60_21, r60_22, r60_24, r60_25, r60_29, r60_31_T, r60_31_F, r60_31, r60_34, r60_35, r60_37, r60_39, r60_40, r60_41_T, r60_41_F, r60_41, r60_44, r60_45, r60_48, r60_49, r60_52_T, r60_52_F, r60_52, r60_55, r60_58, r60_61, r60_63, r60_65_T, r60_65_F, r60_65, r60_68, r60_69, r60_72, r60_73, r60_75, r60_77_T, r60_77_F, r60_77, r60_80, r60_81, r60_84, r60_86, r60_88, r60_90_T, r60_90_F, r60_90, r60_93, r60_95, r60_98, r60_99, r60_100, r60_101, r60_105_T, r60_105_F, r60_105, r60_108, r60_110, r60_111, r60_112, r60_113, r60_115, r60_117, r60_118, r60_119, r60_120, r60_123, r60_124, r60_126, r60_129, r60_134, r60_137, r60_138, r60_140, r60_142, r60_143, r60_144_T, r60_144_F, r60_144, r60_147, r60_149, r60_150, r60_151, r60_154, r60_156, r60_157, r60_158, r60_159, r60_160, r60_161, r60_163, r60_164, r60_165, r60_167, r60_170, r60_172, xAf_none, xAf_some, xu_app, Nat.reduceAdd, Nat.reduceSub, Nat.reduceEqDiff, Nat.reduceMul, reduceIte, and_self, and_true, true_and, and_false, false_and, true_implies, false_implies, implies_true, not_true_eq_false, not_false_eq_true, Int.reduceToNat, Int.reducePow, Int.reduceNeg, Int.reduceLT, Int.reduceLE, Int.reduceAdd, Int.reduceSub, Int.reduceMul, Int.reduceDiv, Int.reduceMod, Int.reduceEq, xA_1, xA_15, xA_255, xA_511, xA_65535, xA_32768]
    exact hk _ _ hW (xFc.refl _ _)
  | succ r ih =>
    intro σ f a hr hW hk
    rw [r60_103]
    have e0 : ((r + 1 : Nat) : Int) - 1 = r := by omega
    have et : ((r : Int)).toNat = r := by omega
    have hbd := div_bound m0 r
    have hbd1 := div_bound m0 (r + 1)
    have hdd : m / 2 ^ (r + 1) = m / 2 ^ r / 2 := by
      rw [Int.pow_succ, Int.ediv_ediv_of_nonneg (by have := pow2_pos r; omega)]
    rw [e0]
    simp (config := {contextual := true, maxSteps := 1000000}) (disch := omega) only [r60_0, r60_1, r60_2, r60_5, r60_6, r60_7_T, r60_7_F, r60_7, r60_10, r60_12, r60_13, r60_14, r60_15, r60_16, r60_19, r60_20, r60_21, r60_22, r60_24, r60_25, r60_29, r60_31_T, r60_31_F, r60_31, r60_34, r60_35, r60_37, r60_39, r60_40, r60_41_T, r60_41_F, r60_41, r60_44, r60_45, r60_48, r60_49, r60_52_T, r60_52_F, r60_52, r60_55, r60_58, r60_61, r60_63, r60_65_T, r60_65_F, r60_65, r60_68, r60_69, r60_72, r60_73, r60_75, r60_77_T, r60_77_F, r60_77, r60_80, r60_81, r60_84, r60_86, r60_88, r60_90_T, r60_90_F, r60_90, r60_93, r60_95, r60_98, r60_99, r60_100, r60_101, r60_105_T, r60_105_F, r60_105, r60_108, r60_110, r60_111, r60_112, r60_113, r60_115, r60_117, r60_118, r60_119, r60_120, r60_123, r60_124, r60_126, r60_129, r60_132, r60_134, r60_137, r60_138, r60_140, r60_142, r60_143, r60_144_T, r60_144_F, r60_144, r60_147, r60_149, r60_150, r60_151, r60_154, r60_156, r60_157, r60_158, r60_159, r60_160, r60_161, r60_163, r60_164, r60_165, r60_167, r60_170, r60_172, et, xAf_none, xAf_some, xu_app, Nat.reduceAdd, Nat.reduceSub, Nat.reduceEqDiff, Nat.reduceMul, reduceIte, and_self, and_true, true_and, and_false, false_and, true_implies, false_implies, implies_true, not_true_eq_false, not_false_eq_true, Int.reduceToNat, Int.reducePow, Int.reduceNeg, Int.reduceLT, Int.reduceLE, Int.reduceAdd, Int.reduceSub, Int.reduceMul, Int.reduceDiv, Int.reduceMod, Int.reduceEq, xA_1, xA_15, xA_255, xA_511, xA_65535, xA_32768]
    refine p_bbit hW (by omega) (by omega) fun f1 a1 W1 F1 => ?_
    have hgot : m / 2 ^ (r + 1) * 2 + m / 2 ^ r % 2 = m / 2 ^ r := by omega
    simp (config := {contextual := true, maxSteps := 1000000}) (disch := omega) only [r60_0, r60_1, r60_2, r60_5, r60_6, r60_7_T, r60_7_F, r60_7, r60_10, r60_12, r60_13, r60_14, r60_15, r60_16, r60_19, r60_20, r60_21, r60_22, r60_24, r60_25, r60_29, r60_31_T, r60_31_F, r60_31, r60_34, r60_35, r60_37, r60_39, r60_40, r60_41_T, r60_41_F, r60_41, r60_44, r60_45, r60_48, r60_49, r60_52_T, r60_52_F, r60_52, r60_55, r60_58, r60_61, r60_63, r60_65_T, r60_65_F, r60_65, r60_68, r60_69, r60_72, r60_73, r60_75, r60_77_T, r60_77_F, r60_77, r60_80, r60_81, r60_84, r60_86, r60_88, r60_90_T, r60_90_F, r60_90, r60_93, r60_95, r60_98, r60_99, r60_100, r60_101, r60_105_T, r60_105_F, r60_105, r60_108, r60_110, r60_111, r60_112, r60_113, r60_115, r60_117, r60_118, r60_119, r60_120, r60_123, r60_124, r60_126, r60_129, r60_132, r60_134, r60_137, r60_138, r60_140, r60_142, r60_143, r60_144_T, r60_144_F, r60_144, r60_147, r60_149, r60_150, r60_151, r60_154, r60_156, r60_157, r60_158, r60_159, r60_160, r60_161, r60_163, r60_164, r60_165, r60_167, r60_170, r60_172, hgot, xAf_none, xAf_some, xu_app, Nat.reduceAdd, Nat.reduceSub, Nat.reduceEqDiff, Nat.reduceMul, reduceIte, and_self, and_true, true_and, and_false, false_and, true_implies, false_implies, implies_true, not_true_eq_false, not_false_eq_true, Int.reduceToNat, Int.reducePow, Int.reduceNeg, Int.reduceLT, Int.reduceLE, Int.reduceAdd, Int.reduceSub, Int.reduceMul, Int.reduceDiv, Int.reduceMod, Int.reduceEq, xA_1, xA_15, xA_255, xA_511, xA_65535, xA_32768]
    exact ih _ f1 a1 (by omega) W1 fun f2 a2 W2 F2 => hk _ _ W2 (F1.trans F2)
variable {f : Nat → Nat → Int} {a : Nat → Int → Int} {σ : bS}
set_option maxRecDepth 100000 in
theorem p_bcode (hW : xW0 f a A σ) (c0 : 0 ≤ c) (c1 : c < 126) (e0 : -256 ≤ e) (e1 : e ≤ 255) (hd : 3 ≤ d) (hk : ∀ f' a', xW0 f' a' A (bE σ c e) → xFc f a f' a' → Q (hh f' a' g, .returned (some (.int (xI e))))) : xTC d 60 [.ref 14, .int (xI c), .int (xI e)] (hh f a g) Q := by
  have hT := hW.2.2.2.2.1
  have hC := hW.2.2.2.2.2.1
  have hTc := hT c c0 c1
  have hCc := hC c
  obtain ⟨m, hm⟩ : ∃ m, zig e = m := ⟨_, rfl⟩
  have hm0 : 0 ≤ m ∧ m ≤ 511 := by rw [← hm]; unfold zig; split <;> omega
  have hfound : (m % 2 = 0 → m / 2 = e) ∧ (¬ m % 2 = 0 → -(m / 2) - 1 = e) := by rw [← hm]; unfold zig; split <;> omega
  unfold bE at hk
  rw [hm] at hk
  obtain ⟨k, hlow⟩ : ∃ k, low (σ.1 c) (σ.2.1 c) = k := ⟨_, rfl⟩
  have hk8 : k ≤ 8 := by rw [← hlow]; exact low_le _ _
  rw [hlow] at hk
  rw [← hTc.1, ← hTc.2] at hlow
  have hend : ∀ (τ : bS) (f1 : Nat → Nat → Int) (a1 : Nat → Int → Int) (kk z w : Int), xW0 f1 a1 A τ → xFc f a f1 a1 → (∀ f' a', xW0 f' a' A (bL τ c e) → xFc f a f' a' → Q (hh f' a' g, .returned (some (.int (xI e))))) → xT d 60 132 [.ref 14, .int (xI c), .int (xI e), .int (xI kk), .int (xI m), .int (xI z), .int (xI w), .int (xI m), .int (xI (-1))] [] (hh f1 a1 g) Q := fun τ f1 a1 kk z w W1 F1 hk1 => by
    have hI1 := bL_I W1.2.2.2.2.2 (c := c) e0 (show e ≤ 256 by omega)
    have e5 : m % 512 = m := by omega
    have hl : ∀ st, xTC (d - 1) 62 [.ref 14, .int (xI c), .int (xI e)] (hh f1 a1 g) (xAf d 60 167 [.ref 14, .int (xI c), .int (xI e), .int (xI kk), .int (xI m), .int (xI z), .int (xI w), .int (xI m), .int (xI e)] st Q) ↔ xTC (d - 1) 62 [.ref 14, .int (xI c), .int (xI e)] (hh f1 a1 g) (xAf d 60 167 [.ref 14, .int (xI c), .int (xI e), .int (xI kk), .int (xI m), .int (xI z), .int (xI w), .int (xI m), .int (xI e)] st Q) := fun _ => Iff.rfl
    have key : xTC (d - 1) 62 [.ref 14, .int (xI c), .int (xI e)] (hh f1 a1 g) (xAf d 60 167 [.ref 14, .int (xI c), .int (xI e), .int (xI kk), .int (xI m), .int (xI z), .int (xI w), .int (xI m), .int (xI e)] [] Q) := by
      refine p_learn W1.2.2.2.2.1 W1.2.2.2.2.2.1 c0 c1 e0 (by omega) (by omega) fun a2 T2 F2 => ?_
      simp (config := {contextual := true, maxSteps := 1000000}) (disch := omega) only [r60_0, r60_1, r60_2, r60_5, r60_6, r60_7_T, r60_7_F, r60_7, r60_10, r60_12, r60_13, r60_14, r60_15, r60_16, r60_19, r60_20, r60_21, r60_22, r60_24, r60_25, r60_29, r60_31_T, r60_31_F, r60_31, r60_34, r60_35, r60_37, r60_39, r60_40, r60_41_T, r60_41_F, r60_41, r60_44, r60_45, r60_48, r60_49, r60_52_T, r60_52_F, r60_52, r60_55, r60_58, r60_61, r60_63, r60_65_T, r60_65_F, r60_65, r60_68, r60_69, r60_72, r60_73, r60_75, r60_77_T, r60_77_F, r60_77, r60_80, r60_81, r60_84, r60_86, r60_88, r60_90_T, r60_90_F, r60_90, r60_93, r60_95, r60_98, r60_99, r60_100, r60_101, r60_105_T, r60_105_F, r60_105, r60_108, r60_110, r60_111, r60_112, r60_113, r60_115, r60_117, r60_118, r60_119, r60_120, r60_123, r60_124, r60_126, r60_129, r60_132, r60_134, r60_137, r60_138, r60_140, r60_142, r60_143, r60_144_T, r60_144_F, r60_144, r60_147, r60_149, r60_150, r60_151, r60_154, r60_156, r60_157, r60_158, r60_159, r60_160, r60_161, r60_163, r60_164, r60_165, r60_167, r60_170, r60_172, xAf_none, xAf_some, xu_app, Nat.reduceAdd, Nat.reduceSub, Nat.reduceEqDiff, Nat.reduceMul, reduceIte, and_self, and_true, true_and, and_false, false_and, true_implies, false_implies, implies_true, not_true_eq_false, not_false_eq_true, Int.reduceToNat, Int.reducePow, Int.reduceNeg, Int.reduceLT, Int.reduceLE, Int.reduceAdd, Int.reduceSub, Int.reduceMul, Int.reduceDiv, Int.reduceMod, Int.reduceEq, xA_1, xA_15, xA_255, xA_511, xA_65535, xA_32768]
      have hb : (bL τ c e).2.2 = τ.2.2 := by unfold bL; split <;> rfl
      refine hk1 _ _ ⟨?_, W1.2.1, ?_, ?_, T2, hI1⟩ (F1.trans ⟨fun _ _ _ _ _ => rfl, fun _ _ => rfl, fun i i1 i2 i3 i4 => F2 i i2 i3⟩)
      · rw [hb]; exact W1.1.of rfl rfl (F2 11 (by decide) (by decide))
      · rw [hb]; exact W1.2.2.1
      · rw [hb]; exact W1.2.2.2.1
    by_cases hev : m % 2 = 0
    · have he := hfound.1 hev
      simp (config := {contextual := true, maxSteps := 1000000}) (disch := omega) only [r60_0, r60_1, r60_2, r60_5, r60_6, r60_7_T, r60_7_F, r60_7, r60_10, r60_12, r60_13, r60_14, r60_15, r60_16, r60_19, r60_20, r60_21, r60_22, r60_24, r60_25, r60_29, r60_31_T, r60_31_F, r60_31, r60_34, r60_35, r60_37, r60_39, r60_40, r60_41_T, r60_41_F, r60_41, r60_44, r60_45, r60_48, r60_49, r60_52_T, r60_52_F, r60_52, r60_55, r60_58, r60_61, r60_63, r60_65_T, r60_65_F, r60_65, r60_68, r60_69, r60_72, r60_73, r60_75, r60_77_T, r60_77_F, r60_77, r60_80, r60_81, r60_84, r60_86, r60_88, r60_90_T, r60_90_F, r60_90, r60_93, r60_95, r60_98, r60_99, r60_100, r60_101, r60_105_T, r60_105_F, r60_105, r60_108, r60_110, r60_111, r60_112, r60_113, r60_115, r60_117, r60_118, r60_119, r60_120, r60_123, r60_124, r60_126, r60_129, r60_132, r60_134, r60_137, r60_138, r60_140, r60_142, r60_143, r60_144_T, r60_144_F, r60_144, r60_147, r60_149, r60_150, r60_151, r60_154, r60_156, r60_157, r60_158, r60_159, r60_160, r60_161, r60_163, r60_164, r60_165, r60_167, r60_170, r60_172, e5, he, xAf_none, xAf_some, xu_app, Nat.reduceAdd, Nat.reduceSub, Nat.reduceEqDiff, Nat.reduceMul, reduceIte, and_self, and_true, true_and, and_false, false_and, true_implies, false_implies, implies_true, not_true_eq_false, not_false_eq_true, Int.reduceToNat, Int.reducePow, Int.reduceNeg, Int.reduceLT, Int.reduceLE, Int.reduceAdd, Int.reduceSub, Int.reduceMul, Int.reduceDiv, Int.reduceMod, Int.reduceEq, xA_1, xA_15, xA_255, xA_511, xA_65535, xA_32768]
      exact key
    · have he := hfound.2 hev
      simp (config := {contextual := true, maxSteps := 1000000}) (disch := omega) only [r60_0, r60_1, r60_2, r60_5, r60_6, r60_7_T, r60_7_F, r60_7, r60_10, r60_12, r60_13, r60_14, r60_15, r60_16, r60_19, r60_20, r60_21, r60_22, r60_24, r60_25, r60_29, r60_31_T, r60_31_F, r60_31, r60_34, r60_35, r60_37, r60_39, r60_40, r60_41_T, r60_41_F, r60_41, r60_44, r60_45, r60_48, r60_49, r60_52_T, r60_52_F, r60_52, r60_55, r60_58, r60_61, r60_63, r60_65_T, r60_65_F, r60_65, r60_68, r60_69, r60_72, r60_73, r60_75, r60_77_T, r60_77_F, r60_77, r60_80, r60_81, r60_84, r60_86, r60_88, r60_90_T, r60_90_F, r60_90, r60_93, r60_95, r60_98, r60_99, r60_100, r60_101, r60_105_T, r60_105_F, r60_105, r60_108, r60_110, r60_111, r60_112, r60_113, r60_115, r60_117, r60_118, r60_119, r60_120, r60_123, r60_124, r60_126, r60_129, r60_132, r60_134, r60_137, r60_138, r60_140, r60_142, r60_143, r60_144_T, r60_144_F, r60_144, r60_147, r60_149, r60_150, r60_151, r60_154, r60_156, r60_157, r60_158, r60_159, r60_160, r60_161, r60_163, r60_164, r60_165, r60_167, r60_170, r60_172, e5, he, xAf_none, xAf_some, xu_app, Nat.reduceAdd, Nat.reduceSub, Nat.reduceEqDiff, Nat.reduceMul, reduceIte, and_self, and_true, true_and, and_false, false_and, true_implies, false_implies, implies_true, not_true_eq_false, not_false_eq_true, Int.reduceToNat, Int.reducePow, Int.reduceNeg, Int.reduceLT, Int.reduceLE, Int.reduceAdd, Int.reduceSub, Int.reduceMul, Int.reduceDiv, Int.reduceMod, Int.reduceEq, xA_1, xA_15, xA_255, xA_511, xA_65535, xA_32768]
      exact key
  have hstart : xT d 60 27 [.ref 14, .int (xI c), .int (xI e), .int (xI (k : Int)), .int (xI m), .int (xI 0), .null, .null, .null] [] (hh f a g) Q := by
    by_cases hw : m / 2 ^ k < 12
    · rw [if_pos hw] at hk
      have hbd := div_bound hm0.1 k
      refine l_bz1 hk8 hm0.1 hm0.2 hw hd (m / 2 ^ k).toNat σ f a 0 (by omega) (by omega) hW fun f1 a1 W1 F1 => ?_
      simp (config := {contextual := true, maxSteps := 1000000}) (disch := omega) only [r60_0, r60_1, r60_2, r60_5, r60_6, r60_7_T, r60_7_F, r60_7, r60_10, r60_12, r60_13, r60_14, r60_15, r60_16, r60_19, r60_20, r60_21, r60_22, r60_24, r60_25, r60_29, r60_31_T, r60_31_F, r60_31, r60_34, r60_35, r60_37, r60_39, r60_40, r60_41_T, r60_41_F, r60_41, r60_44, r60_45, r60_48, r60_49, r60_52_T, r60_52_F, r60_52, r60_55, r60_58, r60_61, r60_63, r60_65_T, r60_65_F, r60_65, r60_68, r60_69, r60_72, r60_73, r60_75, r60_77_T, r60_77_F, r60_77, r60_80, r60_81, r60_84, r60_86, r60_88, r60_90_T, r60_90_F, r60_90, r60_93, r60_95, r60_98, r60_99, r60_100, r60_101, r60_105_T, r60_105_F, r60_105, r60_108, r60_110, r60_111, r60_112, r60_113, r60_115, r60_117, r60_118, r60_119, r60_120, r60_123, r60_124, r60_126, r60_129, r60_132, r60_134, r60_137, r60_138, r60_140, r60_142, r60_143, r60_144_T, r60_144_F, r60_144, r60_147, r60_149, r60_150, r60_151, r60_154, r60_156, r60_157, r60_158, r60_159, r60_160, r60_161, r60_163, r60_164, r60_165, r60_167, r60_170, r60_172, xAf_none, xAf_some, xu_app, Nat.reduceAdd, Nat.reduceSub, Nat.reduceEqDiff, Nat.reduceMul, reduceIte, and_self, and_true, true_and, and_false, false_and, true_implies, false_implies, implies_true, not_true_eq_false, not_false_eq_true, Int.reduceToNat, Int.reducePow, Int.reduceNeg, Int.reduceLT, Int.reduceLE, Int.reduceAdd, Int.reduceSub, Int.reduceMul, Int.reduceDiv, Int.reduceMod, Int.reduceEq, xA_1, xA_15, xA_255, xA_511, xA_65535, xA_32768]
      exact l_bdn hm0.1 hm0.2 hd k _ f1 a1 (by omega) W1 fun f2 a2 W2 F2 => hend _ f2 a2 _ _ _ W2 (F1.trans F2) hk
    · rw [if_neg hw] at hk
      refine l_bz12 hk8 hm0.1 hm0.2 hw hd 12 σ f a 0 (by omega) (by omega) hW fun f1 a1 W1 F1 => ?_
      simp (config := {contextual := true, maxSteps := 1000000}) (disch := omega) only [r60_0, r60_1, r60_2, r60_5, r60_6, r60_7_T, r60_7_F, r60_7, r60_10, r60_12, r60_13, r60_14, r60_15, r60_16, r60_19, r60_20, r60_21, r60_22, r60_24, r60_25, r60_29, r60_31_T, r60_31_F, r60_31, r60_34, r60_35, r60_37, r60_39, r60_40, r60_41_T, r60_41_F, r60_41, r60_44, r60_45, r60_48, r60_49, r60_52_T, r60_52_F, r60_52, r60_55, r60_58, r60_61, r60_63, r60_65_T, r60_65_F, r60_65, r60_68, r60_69, r60_72, r60_73, r60_75, r60_77_T, r60_77_F, r60_77, r60_80, r60_81, r60_84, r60_86, r60_88, r60_90_T, r60_90_F, r60_90, r60_93, r60_95, r60_98, r60_99, r60_100, r60_101, r60_105_T, r60_105_F, r60_105, r60_108, r60_110, r60_111, r60_112, r60_113, r60_115, r60_117, r60_118, r60_119, r60_120, r60_123, r60_124, r60_126, r60_129, r60_132, r60_134, r60_137, r60_138, r60_140, r60_142, r60_143, r60_144_T, r60_144_F, r60_144, r60_147, r60_149, r60_150, r60_151, r60_154, r60_156, r60_157, r60_158, r60_159, r60_160, r60_161, r60_163, r60_164, r60_165, r60_167, r60_170, r60_172, xAf_none, xAf_some, xu_app, Nat.reduceAdd, Nat.reduceSub, Nat.reduceEqDiff, Nat.reduceMul, reduceIte, and_self, and_true, true_and, and_false, false_and, true_implies, false_implies, implies_true, not_true_eq_false, not_false_eq_true, Int.reduceToNat, Int.reducePow, Int.reduceNeg, Int.reduceLT, Int.reduceLE, Int.reduceAdd, Int.reduceSub, Int.reduceMul, Int.reduceDiv, Int.reduceMod, Int.reduceEq, xA_1, xA_15, xA_255, xA_511, xA_65535, xA_32768]
      have e9 : (0 : Int) = m / 2 ^ 9 := by omega
      have := l_bdn (c := c) (e := e) (k := (k : Int)) (z := 12) (w := 1) (g := g) (Q := Q) hm0.1 hm0.2 hd 9 _ f1 a1 (by omega) W1 fun f2 a2 W2 F2 => hend _ f2 a2 _ _ _ W2 (F1.trans F2) hk
      rw [← e9] at this
      exact this
  rw [e60]
  by_cases hn : e < 0
  · have hmn : -2 * e - 1 = m := by rw [← hm]; unfold zig; rw [if_pos hn]
    simp (config := {contextual := true, maxSteps := 1000000}) (disch := omega) only [r60_0, r60_1, r60_2, r60_5, r60_6, r60_7_T, r60_7_F, r60_7, r60_10, r60_12, r60_13, r60_14, r60_15, r60_16, r60_19, r60_20, r60_21, r60_22, r60_24, r60_25, r60_29, r60_31_T, r60_31_F, r60_31, r60_34, r60_35, r60_37, r60_39, r60_40, r60_41_T, r60_41_F, r60_41, r60_44, r60_45, r60_48, r60_49, r60_52_T, r60_52_F, r60_52, r60_55, r60_58, r60_61, r60_63, r60_65_T, r60_65_F, r60_65, r60_68, r60_69, r60_72, r60_73, r60_75, r60_77_T, r60_77_F, r60_77, r60_80, r60_81, r60_84, r60_86, r60_88, r60_90_T, r60_90_F, r60_90, r60_93, r60_95, r60_98, r60_99, r60_100, r60_101, r60_105_T, r60_105_F, r60_105, r60_108, r60_110, r60_111, r60_112, r60_113, r60_115, r60_117, r60_118, r60_119, r60_120, r60_123, r60_124, r60_126, r60_129, r60_132, r60_134, r60_137, r60_138, r60_140, r60_142, r60_143, r60_144_T, r60_144_F, r60_144, r60_147, r60_149, r60_150, r60_151, r60_154, r60_156, r60_157, r60_158, r60_159, r60_160, r60_161, r60_163, r60_164, r60_165, r60_167, r60_170, r60_172, s_low, hlow, hmn, xAf_none, xAf_some, xu_app, Nat.reduceAdd, Nat.reduceSub, Nat.reduceEqDiff, Nat.reduceMul, reduceIte, and_self, and_true, true_and, and_false, false_and, true_implies, false_implies, implies_true, not_true_eq_false, not_false_eq_true, Int.reduceToNat, Int.reducePow, Int.reduceNeg, Int.reduceLT, Int.reduceLE, Int.reduceAdd, Int.reduceSub, Int.reduceMul, Int.reduceDiv, Int.reduceMod, Int.reduceEq, xA_1, xA_15, xA_255, xA_511, xA_65535, xA_32768]
    exact hstart
  · have hmn : 2 * e = m := by rw [← hm]; unfold zig; rw [if_neg hn]
    simp (config := {contextual := true, maxSteps := 1000000}) (disch := omega) only [r60_0, r60_1, r60_2, r60_5, r60_6, r60_7_T, r60_7_F, r60_7, r60_10, r60_12, r60_13, r60_14, r60_15, r60_16, r60_19, r60_20, r60_21, r60_22, r60_24, r60_25, r60_29, r60_31_T, r60_31_F, r60_31, r60_34, r60_35, r60_37, r60_39, r60_40, r60_41_T, r60_41_F, r60_41, r60_44, r60_45, r60_48, r60_49, r60_52_T, r60_52_F, r60_52, r60_55, r60_58, r60_61, r60_63, r60_65_T, r60_65_F, r60_65, r60_68, r60_69, r60_72, r60_73, r60_75, r60_77_T, r60_77_F, r60_77, r60_80, r60_81, r60_84, r60_86, r60_88, r60_90_T, r60_90_F, r60_90, r60_93, r60_95, r60_98, r60_99, r60_100, r60_101, r60_105_T, r60_105_F, r60_105, r60_108, r60_110, r60_111, r60_112, r60_113, r60_115, r60_117, r60_118, r60_119, r60_120, r60_123, r60_124, r60_126, r60_129, r60_132, r60_134, r60_137, r60_138, r60_140, r60_142, r60_143, r60_144_T, r60_144_F, r60_144, r60_147, r60_149, r60_150, r60_151, r60_154, r60_156, r60_157, r60_158, r60_159, r60_160, r60_161, r60_163, r60_164, r60_165, r60_167, r60_170, r60_172, s_low, hlow, hmn, xAf_none, xAf_some, xu_app, Nat.reduceAdd, Nat.reduceSub, Nat.reduceEqDiff, Nat.reduceMul, reduceIte, and_self, and_true, true_and, and_false, false_and, true_implies, false_implies, implies_true, not_true_eq_false, not_false_eq_true, Int.reduceToNat, Int.reducePow, Int.reduceNeg, Int.reduceLT, Int.reduceLE, Int.reduceAdd, Int.reduceSub, Int.reduceMul, Int.reduceDiv, Int.reduceMod, Int.reduceEq, xA_1, xA_15, xA_255, xA_511, xA_65535, xA_32768]
    exact hstart
end S45
