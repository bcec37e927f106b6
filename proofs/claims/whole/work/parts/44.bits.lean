/-! MODE 0: A BIT IS WRITTEN -/
/-- sums, counts, the number, its digits, how many bits of the last are free -/
abbrev bS : Type := (Int → Int) × (Int → Int) × Int × Nat × Int
def bw (σ : bS) (b : Int) : bS := if σ.2.2.2.2 = 0 then (σ.1, σ.2.1, σ.2.2.1 * 256 + b * 128, σ.2.2.2.1 + 1, 7) else (σ.1, σ.2.1, σ.2.2.1 + b * 2 ^ (σ.2.2.2.2 - 1).toNat, σ.2.2.2.1, σ.2.2.2.2 - 1)
def bC (σ : bS) : Prop := ∀ j, 1 ≤ σ.2.1 j ∧ σ.2.1 j ≤ 15 ∧ 0 ≤ σ.1 j ∧ σ.1 j ≤ 256 * σ.2.1 j
def bI (σ : bS) : Prop := bC σ ∧ 0 ≤ σ.2.2.1 ∧ 0 ≤ σ.2.2.2.2 ∧ σ.2.2.2.2 ≤ 7 ∧ σ.2.2.1 % 2 ^ σ.2.2.2.2.toNat = 0 ∧ (σ.2.2.2.1 = 0 → σ.2.2.2.2 = 0)
theorem bw_I {σ : bS} (h : bI σ) {b : Int} (hb : b = 0 ∨ b = 1) : bI (bw σ b) := by
  obtain ⟨S, C, X, n, lf⟩ := σ
  obtain ⟨hC, h0, h1, h2, h3, h4⟩ := h
  dsimp only at h0 h1 h2 h3 h4
  unfold bw; dsimp only
  by_cases hl : lf = 0
  · rw [if_pos hl]
    refine ⟨hC, ?_, by dsimp only; omega, by dsimp only; omega, ?_, by dsimp only; omega⟩
    · dsimp only; rcases hb with rfl | rfl <;> omega
    · show (X * 256 + b * 128) % 128 = 0; omega
  · rw [if_neg hl]
    have hc : lf = 1 ∨ lf = 2 ∨ lf = 3 ∨ lf = 4 ∨ lf = 5 ∨ lf = 6 ∨ lf = 7 := by omega
    refine ⟨hC, ?_, by dsimp only; omega, by dsimp only; omega, ?_, by dsimp only; omega⟩
    · dsimp only
      have := pow2_pos (lf - 1).toNat
      rcases hb with rfl | rfl <;> omega
    · dsimp only
      rcases hc with rfl | rfl | rfl | rfl | rfl | rfl | rfl <;> simp only [Int.reduceToNat, Int.reduceSub, Int.reducePow] at h3 ⊢ <;> omega
/-- the coder of bits writes -/
def xW0 (f : Nat → Nat → Int) (a : Nat → Int → Int) (A : List Int) (σ : bS) : Prop :=
  xB f a (A ++ dg σ.2.2.1 σ.2.2.2.1) ∧ f 14 2 = 0 ∧ f 14 6 = σ.2.2.2.2 ∧ (σ.2.2.2.2 ≠ 0 → f 14 5 = σ.2.2.1 % 256) ∧ (∀ j, 0 ≤ j → j < 126 → a 15 j = σ.1 j ∧ a 16 j = σ.2.1 j) ∧ bI σ
section S44
variable {d : Nat} {Q : xm_H × Outcome → Prop} {f : Nat → Nat → Int} {a : Nat → Int → Int} {g : xG} {x b u v : Int} {A B : List Int} {σ : bS}
theorem p_putlast (h : xB f a (B ++ [u])) (hx : x = f 10 0 - 1) (v0 : 0 ≤ v) (v1 : v ≤ 255) (hk : ∀ a', xB f a' (B ++ [v]) → xF10 f a f a' → Q (hh f a' g, .returned none)) : xTC d 53 [.ref 10, .int (xI x), .int (xI v)] (hh f a g) Q := by
  have hl := h.len
  obtain ⟨h0, h1, h2, h3⟩ := h
  rw [List.length_append, List.length_singleton] at h0 h1 h2
  rw [s_put10 hl.1 hl.2 (by omega) (by omega)]
  refine ⟨fun hp => hk _ ⟨?_, fun hn => ⟨?_, fun j hj => ?_⟩, fun hn => ?_, fun j => ?_⟩ ⟨fun _ _ => rfl, fun _ _ => rfl, fun i hi => xw_ne _ hi⟩, fun hp => by omega⟩
  · rw [List.length_append, List.length_singleton]; exact h0
  · rw [List.length_append, List.length_singleton] at hn; exact (h1 hn).1
  · rw [List.length_append, List.length_singleton] at hn hj
    rw [xw_app]
    by_cases hj' : j = B.length
    · subst hj'; rw [getD_last, if_pos ⟨rfl, by omega⟩]
    · rw [getD_snoc (by omega), if_neg (by omega), (h1 hn).2 j hj, getD_snoc (by omega)]
  · rw [List.length_append, List.length_singleton] at hn; exact h2 hn
  · rw [xw_app]; split
    · omega
    · exact h3 j
set_option maxRecDepth 100000 in
theorem p_bbit (h : xW0 f a A σ) (hb : b = 0 ∨ b = 1) (hd : 2 ≤ d) (hk : ∀ f' a', xW0 f' a' A (bw σ b) → xFc f a f' a' → Q (hh f' a' g, .returned (some (.int (xI b))))) : xTC d 63 [.ref 14, .int (xI b)] (hh f a g) Q := by
  have hI' := bw_I h.2.2.2.2.2 hb
  obtain ⟨S, C, X, n, lf⟩ := σ
  obtain ⟨hB, h2, h6, h5, hT, hI⟩ := h
  obtain ⟨hC, hX0, hl0, hl1, hX2, hn0⟩ := hI
  dsimp only at hB h6 h5 hT hX0 hl0 hl1 hX2 hn0
  have hBl := hB.len
  have hrd : f 14 2 = 0 := h2
  unfold bw at hk hI'
  dsimp only at hk hI'
  rw [e63]
  by_cases hl : lf = 0
  · rw [if_pos hl] at hk hI'
    subst hl
    simp (config := {contextual := true, maxSteps := 1000000}) (disch := omega) only [r63_0, r63_1, r63_4_T, r63_4_F, r63_4, r63_7, r63_8, r63_10, r63_13, r63_14, r63_17_T, r63_17_F, r63_17, r63_20, r63_21, r63_22, r63_25, r63_28, r63_31, r63_34, r63_35, r63_36, r63_39, r63_40, r63_43, r63_44, r63_47, r63_48, r63_49, r63_52, r63_53, r63_54, r63_57, r63_58, r63_61_T, r63_61_F, r63_61, r63_64, r63_65, r63_68, r63_69, r63_72, r63_73, r63_74, r63_75, r63_76, r63_77, r63_78, r63_81, r63_82, r63_83, r63_86, r63_87, r63_88, r63_91, r63_92, r63_95, r63_96, r63_99, r63_102, r63_103, r63_104, r63_105, r63_108, r63_111, r63_112, h6, xAf_none, xAf_some, xu_app, Nat.reduceAdd, Nat.reduceSub, Nat.reduceEqDiff, Nat.reduceMul, reduceIte, and_self, and_true, true_and, and_false, false_and, true_implies, false_implies, implies_true, not_true_eq_false, not_false_eq_true, Int.reduceToNat, Int.reducePow, Int.reduceNeg, Int.reduceLT, Int.reduceLE, Int.reduceAdd, Int.reduceSub, Int.reduceMul, Int.reduceDiv, Int.reduceMod, Int.reduceEq, xA_1, xA_15, xA_255, xA_511, xA_65535, xA_32768]
    refine p_push (hB.of rfl rfl rfl) (v := 0) (by omega) (by omega) fun f1 a1 B1 F1 => ?_
    have e14 : f1 14 = xu (xu f 14 6 8) 14 5 0 14 := F1.1 14 (by decide)
    have e2 : f1 14 2 = 0 := by rw [e14]; exact h2
    have e5 : f1 14 5 = 0 := by rw [e14]; rfl
    have e6 : f1 14 6 = 8 := by rw [e14]; rfl
    have hl1 := B1.len
    simp (config := {contextual := true, maxSteps := 1000000}) (disch := omega) only [r63_0, r63_1, r63_4_T, r63_4_F, r63_4, r63_7, r63_8, r63_10, r63_13, r63_14, r63_17_T, r63_17_F, r63_17, r63_20, r63_21, r63_22, r63_25, r63_28, r63_31, r63_34, r63_35, r63_36, r63_39, r63_40, r63_43, r63_44, r63_47, r63_48, r63_49, r63_52, r63_53, r63_54, r63_57, r63_58, r63_61_T, r63_61_F, r63_61, r63_64, r63_65, r63_68, r63_69, r63_72, r63_73, r63_74, r63_75, r63_76, r63_77, r63_78, r63_81, r63_82, r63_83, r63_86, r63_87, r63_88, r63_91, r63_92, r63_95, r63_96, r63_99, r63_102, r63_103, r63_104, r63_105, r63_108, r63_111, r63_112, e2, e5, e6, xAf_none, xAf_some, xu_app, Nat.reduceAdd, Nat.reduceSub, Nat.reduceEqDiff, Nat.reduceMul, reduceIte, and_self, and_true, true_and, and_false, false_and, true_implies, false_implies, implies_true, not_true_eq_false, not_false_eq_true, Int.reduceToNat, Int.reducePow, Int.reduceNeg, Int.reduceLT, Int.reduceLE, Int.reduceAdd, Int.reduceSub, Int.reduceMul, Int.reduceDiv, Int.reduceMod, Int.reduceEq, xA_1, xA_15, xA_255, xA_511, xA_65535, xA_32768]
    refine p_putlast (B1.of rfl rfl rfl) rfl (by omega) (by omega) fun a2 B2 F2 => ?_
    simp (config := {contextual := true, maxSteps := 1000000}) (disch := omega) only [r63_0, r63_1, r63_4_T, r63_4_F, r63_4, r63_7, r63_8, r63_10, r63_13, r63_14, r63_17_T, r63_17_F, r63_17, r63_20, r63_21, r63_22, r63_25, r63_28, r63_31, r63_34, r63_35, r63_36, r63_39, r63_40, r63_43, r63_44, r63_47, r63_48, r63_49, r63_52, r63_53, r63_54, r63_57, r63_58, r63_61_T, r63_61_F, r63_61, r63_64, r63_65, r63_68, r63_69, r63_72, r63_73, r63_74, r63_75, r63_76, r63_77, r63_78, r63_81, r63_82, r63_83, r63_86, r63_87, r63_88, r63_91, r63_92, r63_95, r63_96, r63_99, r63_102, r63_103, r63_104, r63_105, r63_108, r63_111, r63_112, xAf_none, xAf_some, xu_app, Nat.reduceAdd, Nat.reduceSub, Nat.reduceEqDiff, Nat.reduceMul, reduceIte, and_self, and_true, true_and, and_false, false_and, true_implies, false_implies, implies_true, not_true_eq_false, not_false_eq_true, Int.reduceToNat, Int.reducePow, Int.reduceNeg, Int.reduceLT, Int.reduceLE, Int.reduceAdd, Int.reduceSub, Int.reduceMul, Int.reduceDiv, Int.reduceMod, Int.reduceEq, xA_1, xA_15, xA_255, xA_511, xA_65535, xA_32768]
    refine hk _ _ ⟨?_, ?_, rfl, fun _ => ?_, fun j j0 j1 => ?_, hI'⟩ ?_
    · dsimp only
      rw [show X * 256 + b * 128 = 256 * X + b * 128 by omega, dg_push _ _ _ (by omega) (by omega), ← List.append_assoc]
      rw [Int.zero_add] at B2; exact B2
    · exact e2
    · dsimp only; rw [xu_app, if_pos ⟨rfl, rfl⟩]; omega
    · rw [F2.2.2 15 (by decide), F2.2.2 16 (by decide), F1.2.2 15 (by decide), F1.2.2 16 (by decide)]; exact hT j j0 j1
    · refine xFc.trans (f' := xu (xu f 14 6 8) 14 5 0) (a' := a) ⟨fun i i1 i2 i3 i4 => ?_, fun k hk => rfl, fun i i1 i2 i3 i4 => rfl⟩ (F1.c.trans (xFc.trans (f' := xu (xu f1 14 6 7) 14 5 (0 + b * 128)) (a' := a1) ⟨fun i i1 i2 i3 i4 => ?_, fun k hk => rfl, fun i i1 i2 i3 i4 => rfl⟩ F2.c))
      · rw [xu_ne _ i3, xu_ne _ i3]
      · rw [xu_ne _ i3, xu_ne _ i3]
  · rw [if_neg hl] at hk hI'
    have hn : n ≠ 0 := fun z => hl (hn0 z)
    obtain ⟨m, rfl⟩ : ∃ m, n = m + 1 := ⟨n - 1, by omega⟩
    have hcur := h5 hl
    have hlf : lf = 1 ∨ lf = 2 ∨ lf = 3 ∨ lf = 4 ∨ lf = 5 ∨ lf = 6 ∨ lf = 7 := by omega
    have hpw : (X + b * 2 ^ (lf - 1).toNat) / 256 = X / 256 ∧ (X + b * 2 ^ (lf - 1).toNat) % 256 = X % 256 + b * 2 ^ (lf - 1).toNat ∧ 0 ≤ b * 2 ^ (lf - 1).toNat ∧ b * 2 ^ (lf - 1).toNat ≤ 128 ∧ X % 256 + b * 2 ^ (lf - 1).toNat ≤ 255 := by
      rcases hlf with rfl | rfl | rfl | rfl | rfl | rfl | rfl <;> simp only [Int.reduceToNat, Int.reduceSub, Int.reducePow] at hX2 ⊢ <;> omega
    simp (config := {contextual := true, maxSteps := 1000000}) (disch := omega) only [r63_0, r63_1, r63_4_T, r63_4_F, r63_4, r63_7, r63_8, r63_10, r63_13, r63_14, r63_17_T, r63_17_F, r63_17, r63_20, r63_21, r63_22, r63_25, r63_28, r63_31, r63_34, r63_35, r63_36, r63_39, r63_40, r63_43, r63_44, r63_47, r63_48, r63_49, r63_52, r63_53, r63_54, r63_57, r63_58, r63_61_T, r63_61_F, r63_61, r63_64, r63_65, r63_68, r63_69, r63_72, r63_73, r63_74, r63_75, r63_76, r63_77, r63_78, r63_81, r63_82, r63_83, r63_86, r63_87, r63_88, r63_91, r63_92, r63_95, r63_96, r63_99, r63_102, r63_103, r63_104, r63_105, r63_108, r63_111, r63_112, h6, hcur, h2, xAf_none, xAf_some, xu_app, Nat.reduceAdd, Nat.reduceSub, Nat.reduceEqDiff, Nat.reduceMul, reduceIte, and_self, and_true, true_and, and_false, false_and, true_implies, false_implies, implies_true, not_true_eq_false, not_false_eq_true, Int.reduceToNat, Int.reducePow, Int.reduceNeg, Int.reduceLT, Int.reduceLE, Int.reduceAdd, Int.reduceSub, Int.reduceMul, Int.reduceDiv, Int.reduceMod, Int.reduceEq, xA_1, xA_15, xA_255, xA_511, xA_65535, xA_32768]
    have hB' : xB f a ((A ++ dg (X / 256) m) ++ [X % 256]) := by rw [List.append_assoc]; exact hB
    refine p_putlast (hB'.of rfl rfl rfl) rfl (by omega) (by omega) fun a2 B2 F2 => ?_
    simp (config := {contextual := true, maxSteps := 1000000}) (disch := omega) only [r63_0, r63_1, r63_4_T, r63_4_F, r63_4, r63_7, r63_8, r63_10, r63_13, r63_14, r63_17_T, r63_17_F, r63_17, r63_20, r63_21, r63_22, r63_25, r63_28, r63_31, r63_34, r63_35, r63_36, r63_39, r63_40, r63_43, r63_44, r63_47, r63_48, r63_49, r63_52, r63_53, r63_54, r63_57, r63_58, r63_61_T, r63_61_F, r63_61, r63_64, r63_65, r63_68, r63_69, r63_72, r63_73, r63_74, r63_75, r63_76, r63_77, r63_78, r63_81, r63_82, r63_83, r63_86, r63_87, r63_88, r63_91, r63_92, r63_95, r63_96, r63_99, r63_102, r63_103, r63_104, r63_105, r63_108, r63_111, r63_112, xAf_none, xAf_some, xu_app, Nat.reduceAdd, Nat.reduceSub, Nat.reduceEqDiff, Nat.reduceMul, reduceIte, and_self, and_true, true_and, and_false, false_and, true_implies, false_implies, implies_true, not_true_eq_false, not_false_eq_true, Int.reduceToNat, Int.reducePow, Int.reduceNeg, Int.reduceLT, Int.reduceLE, Int.reduceAdd, Int.reduceSub, Int.reduceMul, Int.reduceDiv, Int.reduceMod, Int.reduceEq, xA_1, xA_15, xA_255, xA_511, xA_65535, xA_32768]
    refine hk _ _ ⟨?_, ?_, rfl, fun _ => ?_, fun j j0 j1 => ?_, hI'⟩ ?_
    · dsimp only
      rw [show dg (X + b * 2 ^ (lf - 1).toNat) (m + 1) = dg ((X + b * 2 ^ (lf - 1).toNat) / 256) m ++ [(X + b * 2 ^ (lf - 1).toNat) % 256] from rfl, hpw.1, hpw.2.1, ← List.append_assoc]
      exact B2
    · exact h2
    · dsimp only; rw [hpw.2.1]; rfl
    · rw [F2.2.2 15 (by decide), F2.2.2 16 (by decide)]; exact hT j j0 j1
    · refine xFc.trans (f' := xu (xu f 14 6 (lf - 1)) 14 5 (X % 256 + b * 2 ^ (lf - 1).toNat)) (a' := a) ⟨fun i i1 i2 i3 i4 => ?_, fun k hk => rfl, fun i i1 i2 i3 i4 => rfl⟩ F2.c
      rw [xu_ne _ i3, xu_ne _ i3]
/-- how many low bits: the least k with count * 2 ^ k at least sum, 8 at most -/
def lowF (s c : Int) : Nat → Nat → Nat
  | 0, k => k
  | n + 1, k => if c * 2 ^ k < s then lowF s c n (k + 1) else k
def low (s c : Int) : Nat := lowF s c 8 0
theorem lowF_le (s c : Int) (n : Nat) : ∀ k, k ≤ lowF s c n k ∧ lowF s c n k ≤ k + n := by
  induction n with
  | zero => intro k; exact ⟨Nat.le_refl _, Nat.le_refl _⟩
  | succ n ih => intro k; unfold lowF; split
                 · have := ih (k + 1); omega
                 · omega
theorem low_le (s c : Int) : low s c ≤ 8 := (lowF_le s c 8 0).2
theorem mul_pow_le {c : Int} (c0 : 0 ≤ c) (c1 : c ≤ 15) {k : Nat} (hk : k ≤ 8) : 0 ≤ c * 2 ^ k ∧ c * 2 ^ k ≤ 3840 := by
  have h1 := pow2_le (i := k) (j := 8) hk
  have h2 := pow2_pos k
  have h3 : c * 2 ^ k ≤ 15 * 2 ^ k := Int.mul_le_mul_of_nonneg_right c1 (by omega)
  exact ⟨Int.mul_nonneg c0 (by omega), by omega⟩
theorem l_low {c : Int} (c0 : 0 ≤ x) (c1 : x < 126) (hc : 0 ≤ a 16 x ∧ a 16 x ≤ 15) (hs : 0 ≤ a 15 x ∧ a 15 x ≤ 3840) (n : Nat) : ∀ (k : Nat), k + n = 8 → Q (hh f a g, .returned (some (.int (xI (lowF (a 15 x) (a 16 x) n k : Nat))))) → xT d 61 2 [.ref 14, .int (xI x), .int (xI (k : Int))] [] (hh f a g) Q := by
  induction n with
  | zero =>
    intro k hk hq
    rw [r61_2]
    simp (config := {contextual := true, maxSteps := 1000000}) (disch := omega) only [r61_0, r61_1, r61_3, r61_5_T, r61_5_F, r61_5, r61_8, r61_9, r61_12, r61_13, r61_14, r61_15, r61_16, r61_17, r61_20, r61_21, r61_22_T, r61_22_F, r61_22, r61_25, r61_28, r61_31, r61_32, xAf_none, xAf_some, xu_app, Nat.reduceAdd, Nat.reduceSub, Nat.reduceEqDiff, Nat.reduceMul, reduceIte, and_self, and_true, true_and, and_false, false_and, true_implies, false_implies, implies_true, not_true_eq_false, not_false_eq_true, Int.reduceToNat, Int.reducePow, Int.reduceNeg, Int.reduceLT, Int.reduceLE, Int.reduceAdd, Int.reduceSub, Int.reduceMul, Int.reduceDiv, Int.reduceMod, Int.reduceEq, xA_1, xA_15, xA_255, xA_511, xA_65535, xA_32768]
    exact hq
  | succ n ih =>
    intro k hk hq
    rw [r61_2]
    unfold lowF at hq
    have hb := mul_pow_le hc.1 hc.2 (k := k) (by omega)
    have et : ((k : Int)).toNat = k := by omega
    by_cases hlt : a 16 x * 2 ^ k < a 15 x
    · rw [if_pos hlt] at hq
      simp (config := {contextual := true, maxSteps := 1000000}) (disch := omega) only [r61_0, r61_1, r61_3, r61_5_T, r61_5_F, r61_5, r61_8, r61_9, r61_12, r61_13, r61_14, r61_15, r61_16, r61_17, r61_20, r61_21, r61_22_T, r61_22_F, r61_22, r61_25, r61_28, r61_31, r61_32, et, xAf_none, xAf_some, xu_app, Nat.reduceAdd, Nat.reduceSub, Nat.reduceEqDiff, Nat.reduceMul, reduceIte, and_self, and_true, true_and, and_false, false_and, true_implies, false_implies, implies_true, not_true_eq_false, not_false_eq_true, Int.reduceToNat, Int.reducePow, Int.reduceNeg, Int.reduceLT, Int.reduceLE, Int.reduceAdd, Int.reduceSub, Int.reduceMul, Int.reduceDiv, Int.reduceMod, Int.reduceEq, xA_1, xA_15, xA_255, xA_511, xA_65535, xA_32768]
      exact ih (k + 1) (by omega) hq
    · rw [if_neg hlt] at hq
      simp (config := {contextual := true, maxSteps := 1000000}) (disch := omega) only [r61_0, r61_1, r61_3, r61_5_T, r61_5_F, r61_5, r61_8, r61_9, r61_12, r61_13, r61_14, r61_15, r61_16, r61_17, r61_20, r61_21, r61_22_T, r61_22_F, r61_22, r61_25, r61_28, r61_31, r61_32, et, xAf_none, xAf_some, xu_app, Nat.reduceAdd, Nat.reduceSub, Nat.reduceEqDiff, Nat.reduceMul, reduceIte, and_self, and_true, true_and, and_false, false_and, true_implies, false_implies, implies_true, not_true_eq_false, not_false_eq_true, Int.reduceToNat, Int.reducePow, Int.reduceNeg, Int.reduceLT, Int.reduceLE, Int.reduceAdd, Int.reduceSub, Int.reduceMul, Int.reduceDiv, Int.reduceMod, Int.reduceEq, xA_1, xA_15, xA_255, xA_511, xA_65535, xA_32768]
      exact hq
theorem s_low (c0 : 0 ≤ x) (c1 : x < 126) (hc : 0 ≤ a 16 x ∧ a 16 x ≤ 15) (hs : 0 ≤ a 15 x ∧ a 15 x ≤ 3840) : xTC d 61 [.ref 14, .int (xI x)] (hh f a g) Q ↔ Q (hh f a g, .returned (some (.int (xI (low (a 15 x) (a 16 x) : Nat))))) := by
  refine xTC_iff ?_
  rw [e61]
  simp (config := {contextual := true, maxSteps := 1000000}) (disch := omega) only [r61_0, r61_1, r61_3, r61_5_T, r61_5_F, r61_5, r61_8, r61_9, r61_12, r61_13, r61_14, r61_15, r61_16, r61_17, r61_20, r61_21, r61_22_T, r61_22_F, r61_22, r61_25, r61_28, r61_31, r61_32, xAf_none, xAf_some, xu_app, Nat.reduceAdd, Nat.reduceSub, Nat.reduceEqDiff, Nat.reduceMul, reduceIte, and_self, and_true, true_and, and_false, false_and, true_implies, false_implies, implies_true, not_true_eq_false, not_false_eq_true, Int.reduceToNat, Int.reducePow, Int.reduceNeg, Int.reduceLT, Int.reduceLE, Int.reduceAdd, Int.reduceSub, Int.reduceMul, Int.reduceDiv, Int.reduceMod, Int.reduceEq, xA_1, xA_15, xA_255, xA_511, xA_65535, xA_32768]
  exact l_low (c := 0) c0 c1 hc hs 8 0 (by omega) rfl
end S44
