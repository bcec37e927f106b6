/-! THE MODEL: what lies around a place; mode 0 -/
theorem tmod_m (x m : Int) (hm : 0 < m) : (x.tmod m + m).tmod m = x % m := by
  have h1 := Int.emod_nonneg x (b := m) (by omega)
  have h2 := Int.emod_lt_of_pos x hm
  by_cases hx : 0 ≤ x
  · rw [Int.tmod_eq_emod_of_nonneg hx, Int.tmod_eq_emod_of_nonneg (by omega), Int.add_emod_right, Int.emod_emod]
  · obtain ⟨k, rfl⟩ : ∃ k, x = -k := ⟨-x, by omega⟩
    have h3 := Int.emod_nonneg k (b := m) (by omega)
    have h4 := Int.emod_lt_of_pos k hm
    rw [Int.neg_tmod, Int.tmod_eq_emod_of_nonneg (show 0 ≤ k by omega), Int.tmod_eq_emod_of_nonneg (show 0 ≤ -(k % m) + m by omega), Int.add_emod_right]
    have hk : k = m * (k / m) + k % m := (Int.mul_ediv_add_emod k m).symm
    conv => rhs; rw [hk]
    rw [Int.neg_add, ← Int.mul_neg, Int.add_comm, Int.add_mul_emod_self_left]
theorem tmod_bd (x m : Int) (hm : 0 < m) : -m < x.tmod m ∧ x.tmod m < m := by
  by_cases hx : 0 ≤ x
  · rw [Int.tmod_eq_emod_of_nonneg hx]
    have h1 := Int.emod_nonneg x (b := m) (by omega)
    have h2 := Int.emod_lt_of_pos x hm
    omega
  · obtain ⟨k, rfl⟩ : ∃ k, x = -k := ⟨-x, by omega⟩
    have h3 := Int.emod_nonneg k (b := m) (by omega)
    have h4 := Int.emod_lt_of_pos k hm
    rw [Int.neg_tmod, Int.tmod_eq_emod_of_nonneg (show 0 ≤ k by omega)]
    omega
/-- what the model's coders change -/
def xFe (f : Nat → Nat → Int) (a : Nat → Int → Int) (f' : Nat → Nat → Int) (a' : Nat → Int → Int) : Prop := (∀ i, i ≠ 21 → f' i = f i) ∧ (∀ k, k ≠ 29 → k ≠ 30 → k ≠ 31 → k ≠ 32 → k ≠ 34 → k ≠ 35 → f' 21 k = f 21 k) ∧ (∀ i, i ≠ 28 → i ≠ 29 → i ≠ 30 → i ≠ 31 → a' i = a i)
theorem xFe.refl (f : Nat → Nat → Int) (a : Nat → Int → Int) : xFe f a f a := ⟨fun _ _ => rfl, fun _ _ _ _ _ _ _ => rfl, fun _ _ _ _ _ => rfl⟩
theorem xFe.trans {f f' f'' : Nat → Nat → Int} {a a' a'' : Nat → Int → Int} (h : xFe f a f' a') (h' : xFe f' a' f'' a'') : xFe f a f'' a'' :=
  ⟨fun i h1 => (h'.1 i h1).trans (h.1 i h1), fun k h1 h2 h3 h4 h5 h6 => (h'.2.1 k h1 h2 h3 h4 h5 h6).trans (h.2.1 k h1 h2 h3 h4 h5 h6), fun i h1 h2 h3 h4 => (h'.2.2 i h1 h2 h3 h4).trans (h.2.2 i h1 h2 h3 h4)⟩
/-- the model's coder of bits -/
def xM0 (f : Nat → Nat → Int) (a : Nat → Int → Int) (σ : bS) : Prop :=
  f 21 29 = σ.2.2.2.1 ∧ f 21 30 = 8 * (σ.2.2.2.1 : Int) - σ.2.2.2.2 ∧ (∀ j : Nat, j < σ.2.2.2.1 → a 31 (j : Int) = (dg σ.2.2.1 σ.2.2.2.1).getD j 0) ∧ (∀ j, 0 ≤ j → j < 126 → a 28 j = σ.1 j ∧ a 29 j = σ.2.1 j) ∧ bI σ
theorem or_bit : ∀ u : Nat, u < 256 → ∀ s : Nat, s < 8 → u % 2 ^ (s + 1) = 0 → u ||| 2 ^ s = u + 2 ^ s := by decide +kernel
theorem xO_bit {u b : Int} {s : Nat} (u0 : 0 ≤ u) (u1 : u < 256) (hs : s < 8) (hu : u % 2 ^ (s + 1) = 0) (hb : b = 0 ∨ b = 1) : xO u (b * 2 ^ s) = u + b * 2 ^ s := by
  obtain ⟨n, rfl⟩ := Int.eq_ofNat_of_zero_le u0
  rcases hb with rfl | rfl
  · unfold xO; simp only [Int.zero_mul, Int.add_zero]
    show (((n : Int) % 4294967296).toNat ||| 0 : Nat) = (n : Int)
    rw [Nat.or_zero]; omega
  · have h1 : n % 2 ^ (s + 1) = 0 := by
      have : ((n % 2 ^ (s + 1) : Nat) : Int) = 0 := by rw [Int.natCast_emod, Int.natCast_pow]; exact hu
      omega
    have h2 := or_bit n (by omega) s hs h1
    have h3 : (2 : Nat) ^ s ≤ 2 ^ 7 := Nat.pow_le_pow_right (by omega) (by omega)
    have e1 : ((2 : Int) ^ s) = ((2 ^ s : Nat) : Int) := by rw [Int.natCast_pow]; rfl
    unfold xO
    rw [Int.one_mul, e1]
    rw [show ((n : Int) % 4294967296).toNat = n by omega, show (((2 ^ s : Nat) : Int) % 4294967296).toNat = 2 ^ s by omega, h2, Int.natCast_add]
section S50
variable {d : Nat} {Q : xm_H × Outcome → Prop} {f : Nat → Nat → Int} {a : Nat → Int → Int} {g : xG} {h : xm_H} {x y z w e b p m q : Int} {σ : bS}
theorem s_mmid (x0 : -100000 ≤ x) (x1 : x ≤ 100000) (y0 : -100000 ≤ y) (y1 : y ≤ 100000) (z0 : -100000 ≤ z) (z1 : z ≤ 100000) : xTC d 98 [.int (xI x), .int (xI y), .int (xI z)] h Q ↔ Q (h, .returned (some (.int (xI (mid x y z))))) := by
  rw [e98]
  by_cases c1 : x < y
  · by_cases c2 : z < x
    · have e : mid x y z = x := by unfold mid; omega
      rw [e]; simp (config := {contextual := true, maxSteps := 1000000}) (disch := omega) only [r98_0, r98_1, r98_2_T, r98_2_F, r98_2, r98_5, r98_6, r98_9, r98_10, r98_11, r98_12, r98_13_T, r98_13_F, r98_13, r98_16, r98_17, r98_20, r98_21, r98_23, r98_24, r98_25_T, r98_25_F, r98_25, r98_28, r98_29, r98_32, r98_33, r98_35_T, r98_35_F, r98_35, r98_38, r98_40, r98_43, r98_44, xAf_none, xAf_some, xu_app, Nat.reduceAdd, Nat.reduceSub, Nat.reduceEqDiff, Nat.reduceMul, reduceIte, and_self, and_true, true_and, and_false, false_and, true_implies, false_implies, implies_true, not_true_eq_false, not_false_eq_true, Int.reduceToNat, Int.reducePow, Int.reduceNeg, Int.reduceLT, Int.reduceLE, Int.reduceAdd, Int.reduceSub, Int.reduceMul, Int.reduceDiv, Int.reduceMod, Int.reduceEq, xA_1, xA_15, xA_255, xA_511, xA_65535, xA_32768]
    · by_cases c3 : y < z
      · have e : mid x y z = y := by unfold mid; omega
        rw [e]; simp (config := {contextual := true, maxSteps := 1000000}) (disch := omega) only [r98_0, r98_1, r98_2_T, r98_2_F, r98_2, r98_5, r98_6, r98_9, r98_10, r98_11, r98_12, r98_13_T, r98_13_F, r98_13, r98_16, r98_17, r98_20, r98_21, r98_23, r98_24, r98_25_T, r98_25_F, r98_25, r98_28, r98_29, r98_32, r98_33, r98_35_T, r98_35_F, r98_35, r98_38, r98_40, r98_43, r98_44, xAf_none, xAf_some, xu_app, Nat.reduceAdd, Nat.reduceSub, Nat.reduceEqDiff, Nat.reduceMul, reduceIte, and_self, and_true, true_and, and_false, false_and, true_implies, false_implies, implies_true, not_true_eq_false, not_false_eq_true, Int.reduceToNat, Int.reducePow, Int.reduceNeg, Int.reduceLT, Int.reduceLE, Int.reduceAdd, Int.reduceSub, Int.reduceMul, Int.reduceDiv, Int.reduceMod, Int.reduceEq, xA_1, xA_15, xA_255, xA_511, xA_65535, xA_32768]
      · have e : mid x y z = z := by unfold mid; omega
        rw [e]; simp (config := {contextual := true, maxSteps := 1000000}) (disch := omega) only [r98_0, r98_1, r98_2_T, r98_2_F, r98_2, r98_5, r98_6, r98_9, r98_10, r98_11, r98_12, r98_13_T, r98_13_F, r98_13, r98_16, r98_17, r98_20, r98_21, r98_23, r98_24, r98_25_T, r98_25_F, r98_25, r98_28, r98_29, r98_32, r98_33, r98_35_T, r98_35_F, r98_35, r98_38, r98_40, r98_43, r98_44, xAf_none, xAf_some, xu_app, Nat.reduceAdd, Nat.reduceSub, Nat.reduceEqDiff, Nat.reduceMul, reduceIte, and_self, and_true, true_and, and_false, false_and, true_implies, false_implies, implies_true, not_true_eq_false, not_false_eq_true, Int.reduceToNat, Int.reducePow, Int.reduceNeg, Int.reduceLT, Int.reduceLE, Int.reduceAdd, Int.reduceSub, Int.reduceMul, Int.reduceDiv, Int.reduceMod, Int.reduceEq, xA_1, xA_15, xA_255, xA_511, xA_65535, xA_32768]
  · by_cases c2 : z < y
    · have e : mid x y z = y := by unfold mid; omega
      rw [e]; simp (config := {contextual := true, maxSteps := 1000000}) (disch := omega) only [r98_0, r98_1, r98_2_T, r98_2_F, r98_2, r98_5, r98_6, r98_9, r98_10, r98_11, r98_12, r98_13_T, r98_13_F, r98_13, r98_16, r98_17, r98_20, r98_21, r98_23, r98_24, r98_25_T, r98_25_F, r98_25, r98_28, r98_29, r98_32, r98_33, r98_35_T, r98_35_F, r98_35, r98_38, r98_40, r98_43, r98_44, xAf_none, xAf_some, xu_app, Nat.reduceAdd, Nat.reduceSub, Nat.reduceEqDiff, Nat.reduceMul, reduceIte, and_self, and_true, true_and, and_false, false_and, true_implies, false_implies, implies_true, not_true_eq_false, not_false_eq_true, Int.reduceToNat, Int.reducePow, Int.reduceNeg, Int.reduceLT, Int.reduceLE, Int.reduceAdd, Int.reduceSub, Int.reduceMul, Int.reduceDiv, Int.reduceMod, Int.reduceEq, xA_1, xA_15, xA_255, xA_511, xA_65535, xA_32768]
    · by_cases c3 : x < z
      · have e : mid x y z = x := by unfold mid; omega
        rw [e]; simp (config := {contextual := true, maxSteps := 1000000}) (disch := omega) only [r98_0, r98_1, r98_2_T, r98_2_F, r98_2, r98_5, r98_6, r98_9, r98_10, r98_11, r98_12, r98_13_T, r98_13_F, r98_13, r98_16, r98_17, r98_20, r98_21, r98_23, r98_24, r98_25_T, r98_25_F, r98_25, r98_28, r98_29, r98_32, r98_33, r98_35_T, r98_35_F, r98_35, r98_38, r98_40, r98_43, r98_44, xAf_none, xAf_some, xu_app, Nat.reduceAdd, Nat.reduceSub, Nat.reduceEqDiff, Nat.reduceMul, reduceIte, and_self, and_true, true_and, and_false, false_and, true_implies, false_implies, implies_true, not_true_eq_false, not_false_eq_true, Int.reduceToNat, Int.reducePow, Int.reduceNeg, Int.reduceLT, Int.reduceLE, Int.reduceAdd, Int.reduceSub, Int.reduceMul, Int.reduceDiv, Int.reduceMod, Int.reduceEq, xA_1, xA_15, xA_255, xA_511, xA_65535, xA_32768]
      · have e : mid x y z = z := by unfold mid; omega
        rw [e]; simp (config := {contextual := true, maxSteps := 1000000}) (disch := omega) only [r98_0, r98_1, r98_2_T, r98_2_F, r98_2, r98_5, r98_6, r98_9, r98_10, r98_11, r98_12, r98_13_T, r98_13_F, r98_13, r98_16, r98_17, r98_20, r98_21, r98_23, r98_24, r98_25_T, r98_25_F, r98_25, r98_28, r98_29, r98_32, r98_33, r98_35_T, r98_35_F, r98_35, r98_38, r98_40, r98_43, r98_44, xAf_none, xAf_some, xu_app, Nat.reduceAdd, Nat.reduceSub, Nat.reduceEqDiff, Nat.reduceMul, reduceIte, and_self, and_true, true_and, and_false, false_and, true_implies, false_implies, implies_true, not_true_eq_false, not_false_eq_true, Int.reduceToNat, Int.reducePow, Int.reduceNeg, Int.reduceLT, Int.reduceLE, Int.reduceAdd, Int.reduceSub, Int.reduceMul, Int.reduceDiv, Int.reduceMod, Int.reduceEq, xA_1, xA_15, xA_255, xA_511, xA_65535, xA_32768]
theorem s_grade (x0 : -100000 ≤ x) (x1 : x ≤ 100000) : xTC d 99 [.int (xI x)] h Q ↔ Q (h, .returned (some (.int (xI (stp x))))) := by
  rw [e99]
  unfold stp
  by_cases c1 : 4 < x
  · rw [if_pos c1]; simp (config := {contextual := true, maxSteps := 1000000}) (disch := omega) only [r99_0, r99_1, r99_2_T, r99_2_F, r99_2, r99_5, r99_6, r99_9, r99_10_T, r99_10_F, r99_10, r99_13, r99_14, r99_17, r99_18, r99_20_T, r99_20_F, r99_20, r99_23, r99_25, r99_28, r99_29_T, r99_29_F, r99_29, r99_32, r99_33, r99_36, r99_37, xAf_none, xAf_some, xu_app, Nat.reduceAdd, Nat.reduceSub, Nat.reduceEqDiff, Nat.reduceMul, reduceIte, and_self, and_true, true_and, and_false, false_and, true_implies, false_implies, implies_true, not_true_eq_false, not_false_eq_true, Int.reduceToNat, Int.reducePow, Int.reduceNeg, Int.reduceLT, Int.reduceLE, Int.reduceAdd, Int.reduceSub, Int.reduceMul, Int.reduceDiv, Int.reduceMod, Int.reduceEq, xA_1, xA_15, xA_255, xA_511, xA_65535, xA_32768]
  · rw [if_neg c1]
    by_cases c2 : 0 < x
    · rw [if_pos c2]; simp (config := {contextual := true, maxSteps := 1000000}) (disch := omega) only [r99_0, r99_1, r99_2_T, r99_2_F, r99_2, r99_5, r99_6, r99_9, r99_10_T, r99_10_F, r99_10, r99_13, r99_14, r99_17, r99_18, r99_20_T, r99_20_F, r99_20, r99_23, r99_25, r99_28, r99_29_T, r99_29_F, r99_29, r99_32, r99_33, r99_36, r99_37, xAf_none, xAf_some, xu_app, Nat.reduceAdd, Nat.reduceSub, Nat.reduceEqDiff, Nat.reduceMul, reduceIte, and_self, and_true, true_and, and_false, false_and, true_implies, false_implies, implies_true, not_true_eq_false, not_false_eq_true, Int.reduceToNat, Int.reducePow, Int.reduceNeg, Int.reduceLT, Int.reduceLE, Int.reduceAdd, Int.reduceSub, Int.reduceMul, Int.reduceDiv, Int.reduceMod, Int.reduceEq, xA_1, xA_15, xA_255, xA_511, xA_65535, xA_32768]
    · rw [if_neg c2]
      by_cases c3 : x < -4
      · rw [if_pos c3]; simp (config := {contextual := true, maxSteps := 1000000}) (disch := omega) only [r99_0, r99_1, r99_2_T, r99_2_F, r99_2, r99_5, r99_6, r99_9, r99_10_T, r99_10_F, r99_10, r99_13, r99_14, r99_17, r99_18, r99_20_T, r99_20_F, r99_20, r99_23, r99_25, r99_28, r99_29_T, r99_29_F, r99_29, r99_32, r99_33, r99_36, r99_37, xAf_none, xAf_some, xu_app, Nat.reduceAdd, Nat.reduceSub, Nat.reduceEqDiff, Nat.reduceMul, reduceIte, and_self, and_true, true_and, and_false, false_and, true_implies, false_implies, implies_true, not_true_eq_false, not_false_eq_true, Int.reduceToNat, Int.reducePow, Int.reduceNeg, Int.reduceLT, Int.reduceLE, Int.reduceAdd, Int.reduceSub, Int.reduceMul, Int.reduceDiv, Int.reduceMod, Int.reduceEq, xA_1, xA_15, xA_255, xA_511, xA_65535, xA_32768]
      · rw [if_neg c3]
        by_cases c4 : x < 0
        · rw [if_pos c4]; simp (config := {contextual := true, maxSteps := 1000000}) (disch := omega) only [r99_0, r99_1, r99_2_T, r99_2_F, r99_2, r99_5, r99_6, r99_9, r99_10_T, r99_10_F, r99_10, r99_13, r99_14, r99_17, r99_18, r99_20_T, r99_20_F, r99_20, r99_23, r99_25, r99_28, r99_29_T, r99_29_F, r99_29, r99_32, r99_33, r99_36, r99_37, xAf_none, xAf_some, xu_app, Nat.reduceAdd, Nat.reduceSub, Nat.reduceEqDiff, Nat.reduceMul, reduceIte, and_self, and_true, true_and, and_false, false_and, true_implies, false_implies, implies_true, not_true_eq_false, not_false_eq_true, Int.reduceToNat, Int.reducePow, Int.reduceNeg, Int.reduceLT, Int.reduceLE, Int.reduceAdd, Int.reduceSub, Int.reduceMul, Int.reduceDiv, Int.reduceMod, Int.reduceEq, xA_1, xA_15, xA_255, xA_511, xA_65535, xA_32768]
        · rw [if_neg c4]; simp (config := {contextual := true, maxSteps := 1000000}) (disch := omega) only [r99_0, r99_1, r99_2_T, r99_2_F, r99_2, r99_5, r99_6, r99_9, r99_10_T, r99_10_F, r99_10, r99_13, r99_14, r99_17, r99_18, r99_20_T, r99_20_F, r99_20, r99_23, r99_25, r99_28, r99_29_T, r99_29_F, r99_29, r99_32, r99_33, r99_36, r99_37, xAf_none, xAf_some, xu_app, Nat.reduceAdd, Nat.reduceSub, Nat.reduceEqDiff, Nat.reduceMul, reduceIte, and_self, and_true, true_and, and_false, false_and, true_implies, false_implies, implies_true, not_true_eq_false, not_false_eq_true, Int.reduceToNat, Int.reducePow, Int.reduceNeg, Int.reduceLT, Int.reduceLE, Int.reduceAdd, Int.reduceSub, Int.reduceMul, Int.reduceDiv, Int.reduceMod, Int.reduceEq, xA_1, xA_15, xA_255, xA_511, xA_65535, xA_32768]
theorem s_near0 (x0 : -100000 ≤ x) (x1 : x ≤ 100000) : xTC d 105 [.int (xI x), .int (xI 256)] h Q ↔ Q (h, .returned (some (.int (xI (wi0 x))))) := by
  rw [e105]
  have ht := tmod_m x 256 (by omega)
  have hb : -256 < x.tmod 256 ∧ x.tmod 256 < 256 := tmod_bd x 256 (by omega)
  have e2 : Int.tdiv 256 2 = 128 := rfl
  unfold wi0
  by_cases c : x % 256 < 128
  · rw [show (x + 128) % 256 - 128 = x % 256 by omega]
    simp (config := {contextual := true, maxSteps := 1000000}) (disch := omega) only [r105_0, r105_1, r105_2_t, r105_3, r105_4, r105_5, r105_6_t, r105_7, r105_8, r105_9, r105_10, r105_11_t, r105_12_T, r105_12_F, r105_12, r105_15, r105_16, r105_17, r105_18, r105_21, r105_22, ht, e2, xAf_none, xAf_some, xu_app, Nat.reduceAdd, Nat.reduceSub, Nat.reduceEqDiff, Nat.reduceMul, reduceIte, and_self, and_true, true_and, and_false, false_and, true_implies, false_implies, implies_true, not_true_eq_false, not_false_eq_true, Int.reduceToNat, Int.reducePow, Int.reduceNeg, Int.reduceLT, Int.reduceLE, Int.reduceAdd, Int.reduceSub, Int.reduceMul, Int.reduceDiv, Int.reduceMod, Int.reduceEq, xA_1, xA_15, xA_255, xA_511, xA_65535, xA_32768]
  · rw [show (x + 128) % 256 - 128 = x % 256 - 256 by omega]
    simp (config := {contextual := true, maxSteps := 1000000}) (disch := omega) only [r105_0, r105_1, r105_2_t, r105_3, r105_4, r105_5, r105_6_t, r105_7, r105_8, r105_9, r105_10, r105_11_t, r105_12_T, r105_12_F, r105_12, r105_15, r105_16, r105_17, r105_18, r105_21, r105_22, ht, e2, xAf_none, xAf_some, xu_app, Nat.reduceAdd, Nat.reduceSub, Nat.reduceEqDiff, Nat.reduceMul, reduceIte, and_self, and_true, true_and, and_false, false_and, true_implies, false_implies, implies_true, not_true_eq_false, not_false_eq_true, Int.reduceToNat, Int.reducePow, Int.reduceNeg, Int.reduceLT, Int.reduceLE, Int.reduceAdd, Int.reduceSub, Int.reduceMul, Int.reduceDiv, Int.reduceMod, Int.reduceEq, xA_1, xA_15, xA_255, xA_511, xA_65535, xA_32768]
theorem s_near1 (x0 : -100000 ≤ x) (x1 : x ≤ 100000) : xTC d 105 [.int (xI x), .int (xI 512)] h Q ↔ Q (h, .returned (some (.int (xI (wi1 x))))) := by
  rw [e105]
  have ht := tmod_m x 512 (by omega)
  have hb : -512 < x.tmod 512 ∧ x.tmod 512 < 512 := tmod_bd x 512 (by omega)
  have e2 : Int.tdiv 512 2 = 256 := rfl
  unfold wi1
  by_cases c : x % 512 < 256
  · rw [show (x + 256) % 512 - 256 = x % 512 by omega]
    simp (config := {contextual := true, maxSteps := 1000000}) (disch := omega) only [r105_0, r105_1, r105_2_t, r105_3, r105_4, r105_5, r105_6_t, r105_7, r105_8, r105_9, r105_10, r105_11_t, r105_12_T, r105_12_F, r105_12, r105_15, r105_16, r105_17, r105_18, r105_21, r105_22, ht, e2, xAf_none, xAf_some, xu_app, Nat.reduceAdd, Nat.reduceSub, Nat.reduceEqDiff, Nat.reduceMul, reduceIte, and_self, and_true, true_and, and_false, false_and, true_implies, false_implies, implies_true, not_true_eq_false, not_false_eq_true, Int.reduceToNat, Int.reducePow, Int.reduceNeg, Int.reduceLT, Int.reduceLE, Int.reduceAdd, Int.reduceSub, Int.reduceMul, Int.reduceDiv, Int.reduceMod, Int.reduceEq, xA_1, xA_15, xA_255, xA_511, xA_65535, xA_32768]
  · rw [show (x + 256) % 512 - 256 = x % 512 - 512 by omega]
    simp (config := {contextual := true, maxSteps := 1000000}) (disch := omega) only [r105_0, r105_1, r105_2_t, r105_3, r105_4, r105_5, r105_6_t, r105_7, r105_8, r105_9, r105_10, r105_11_t, r105_12_T, r105_12_F, r105_12, r105_15, r105_16, r105_17, r105_18, r105_21, r105_22, ht, e2, xAf_none, xAf_some, xu_app, Nat.reduceAdd, Nat.reduceSub, Nat.reduceEqDiff, Nat.reduceMul, reduceIte, and_self, and_true, true_and, and_false, false_and, true_implies, false_implies, implies_true, not_true_eq_false, not_false_eq_true, Int.reduceToNat, Int.reducePow, Int.reduceNeg, Int.reduceLT, Int.reduceLE, Int.reduceAdd, Int.reduceSub, Int.reduceMul, Int.reduceDiv, Int.reduceMod, Int.reduceEq, xA_1, xA_15, xA_255, xA_511, xA_65535, xA_32768]
theorem l_mlow (c0 : 0 ≤ f 21 26) (c1 : f 21 26 < 126) (hc : 1 ≤ a 29 (f 21 26) ∧ a 29 (f 21 26) ≤ 15) (hs : 0 ≤ a 28 (f 21 26) ∧ a 28 (f 21 26) ≤ 256 * a 29 (f 21 26)) (n : Nat) : ∀ (k : Nat), k + n = 8 → Q (hh f a g, .returned (some (.int (xI (lowF (a 28 (f 21 26)) (a 29 (f 21 26)) n k : Nat))))) → xT d 103 2 [.ref 21, .int (xI (k : Int))] [] (hh f a g) Q := by
  induction n with
  | zero =>
    intro k hk hq
    have hk8 : k = 8 := by omega
    subst hk8
    rw [r103_2]
    have e8 : (((8 : Nat) : Int)).toNat = 8 := by omega
    simp (config := {contextual := true, maxSteps := 1000000}) (disch := omega) only [r103_0, r103_1, r103_3, r103_6, r103_7, r103_10, r103_11, r103_12, r103_13, r103_14, r103_17, r103_18, r103_21, r103_22_T, r103_22_F, r103_22, r103_25, r103_28, r103_31, r103_32, e8, xAf_none, xAf_some, xu_app, Nat.reduceAdd, Nat.reduceSub, Nat.reduceEqDiff, Nat.reduceMul, reduceIte, and_self, and_true, true_and, and_false, false_and, true_implies, false_implies, implies_true, not_true_eq_false, not_false_eq_true, Int.reduceToNat, Int.reducePow, Int.reduceNeg, Int.reduceLT, Int.reduceLE, Int.reduceAdd, Int.reduceSub, Int.reduceMul, Int.reduceDiv, Int.reduceMod, Int.reduceEq, xA_1, xA_15, xA_255, xA_511, xA_65535, xA_32768]
    exact hq
  | succ n ih =>
    intro k hk hq
    rw [r103_2]
    unfold lowF at hq
    have hb := mul_pow_le (c := a 29 (f 21 26)) (by omega) hc.2 (k := k) (by omega)
    have et : ((k : Int)).toNat = k := by omega
    by_cases hlt : a 29 (f 21 26) * 2 ^ k < a 28 (f 21 26)
    · rw [if_pos hlt] at hq
      simp (config := {contextual := true, maxSteps := 1000000}) (disch := omega) only [r103_0, r103_1, r103_3, r103_6, r103_7, r103_10, r103_11, r103_12, r103_13, r103_14, r103_17, r103_18, r103_21, r103_22_T, r103_22_F, r103_22, r103_25, r103_28, r103_31, r103_32, et, xAf_none, xAf_some, xu_app, Nat.reduceAdd, Nat.reduceSub, Nat.reduceEqDiff, Nat.reduceMul, reduceIte, and_self, and_true, true_and, and_false, false_and, true_implies, false_implies, implies_true, not_true_eq_false, not_false_eq_true, Int.reduceToNat, Int.reducePow, Int.reduceNeg, Int.reduceLT, Int.reduceLE, Int.reduceAdd, Int.reduceSub, Int.reduceMul, Int.reduceDiv, Int.reduceMod, Int.reduceEq, xA_1, xA_15, xA_255, xA_511, xA_65535, xA_32768]
      exact ih (k + 1) (by omega) hq
    · rw [if_neg hlt] at hq
      simp (config := {contextual := true, maxSteps := 1000000}) (disch := omega) only [r103_0, r103_1, r103_3, r103_6, r103_7, r103_10, r103_11, r103_12, r103_13, r103_14, r103_17, r103_18, r103_21, r103_22_T, r103_22_F, r103_22, r103_25, r103_28, r103_31, r103_32, et, xAf_none, xAf_some, xu_app, Nat.reduceAdd, Nat.reduceSub, Nat.reduceEqDiff, Nat.reduceMul, reduceIte, and_self, and_true, true_and, and_false, false_and, true_implies, false_implies, implies_true, not_true_eq_false, not_false_eq_true, Int.reduceToNat, Int.reducePow, Int.reduceNeg, Int.reduceLT, Int.reduceLE, Int.reduceAdd, Int.reduceSub, Int.reduceMul, Int.reduceDiv, Int.reduceMod, Int.reduceEq, xA_1, xA_15, xA_255, xA_511, xA_65535, xA_32768]
      exact hq
theorem s_mlow (c0 : 0 ≤ f 21 26) (c1 : f 21 26 < 126) (hc : 1 ≤ a 29 (f 21 26) ∧ a 29 (f 21 26) ≤ 15) (hs : 0 ≤ a 28 (f 21 26) ∧ a 28 (f 21 26) ≤ 256 * a 29 (f 21 26)) : xTC d 103 [.ref 21] (hh f a g) Q ↔ Q (hh f a g, .returned (some (.int (xI (low (a 28 (f 21 26)) (a 29 (f 21 26)) : Nat))))) := by
  refine xTC_iff ?_
  rw [e103]
  simp (config := {contextual := true, maxSteps := 1000000}) (disch := omega) only [r103_0, r103_1, r103_3, r103_6, r103_7, r103_10, r103_11, r103_12, r103_13, r103_14, r103_17, r103_18, r103_21, r103_22_T, r103_22_F, r103_22, r103_25, r103_28, r103_31, r103_32, xAf_none, xAf_some, xu_app, Nat.reduceAdd, Nat.reduceSub, Nat.reduceEqDiff, Nat.reduceMul, reduceIte, and_self, and_true, true_and, and_false, false_and, true_implies, false_implies, implies_true, not_true_eq_false, not_false_eq_true, Int.reduceToNat, Int.reducePow, Int.reduceNeg, Int.reduceLT, Int.reduceLE, Int.reduceAdd, Int.reduceSub, Int.reduceMul, Int.reduceDiv, Int.reduceMod, Int.reduceEq, xA_1, xA_15, xA_255, xA_511, xA_65535, xA_32768]
  exact l_mlow c0 c1 hc hs 8 0 (by omega) rfl
theorem p_mlearn {c : Int} (hcx : f 21 26 = c) (hT : ∀ j, 0 ≤ j → j < 126 → a 28 j = σ.1 j ∧ a 29 j = σ.2.1 j) (hC : bC σ) (c0 : 0 ≤ c) (c1 : c < 126) (e0 : -256 ≤ e) (e1 : e ≤ 256) (hk : ∀ a', (∀ j, 0 ≤ j → j < 126 → a' 28 j = (bL σ c e).1 j ∧ a' 29 j = (bL σ c e).2.1 j) → (∀ i, i ≠ 28 → i ≠ 29 → a' i = a i) → Q (hh f a' g, .returned none)) : xTC d 104 [.ref 21, .int (xI e)] (hh f a g) Q := by
  have hc := hC c
  have hTc := hT c c0 c1
  have h15 := hTc.1
  have h16 := hTc.2
  rw [e104]
  unfold bL at hk
  by_cases h : σ.2.1 c + 1 = 16
  · rw [if_pos h] at hk
    by_cases hn : e < 0
    · rw [if_pos hn] at hk
      simp (config := {contextual := true, maxSteps := 1000000}) (disch := omega) only [r104_0, r104_1, r104_4, r104_5, r104_8, r104_9, r104_12, r104_13, r104_16, r104_17, r104_18_T, r104_18_F, r104_18, r104_21, r104_22, r104_23, r104_26, r104_27, r104_28, r104_29, r104_30, r104_33, r104_34, r104_37, r104_38, r104_41, r104_42, r104_45, r104_46, r104_47, r104_48, r104_49, r104_50, r104_53, r104_54, r104_57, r104_58, r104_60_T, r104_60_F, r104_60, r104_63, r104_64, r104_67, r104_68, r104_71, r104_73, r104_74, r104_75, r104_78, r104_79, r104_82, r104_83, r104_86, r104_87, r104_90, r104_91, r104_92, r104_93, r104_94, hcx, h15, h16, xw_app, xAf_none, xAf_some, xu_app, Nat.reduceAdd, Nat.reduceSub, Nat.reduceEqDiff, Nat.reduceMul, reduceIte, and_self, and_true, true_and, and_false, false_and, true_implies, false_implies, implies_true, not_true_eq_false, not_false_eq_true, Int.reduceToNat, Int.reducePow, Int.reduceNeg, Int.reduceLT, Int.reduceLE, Int.reduceAdd, Int.reduceSub, Int.reduceMul, Int.reduceDiv, Int.reduceMod, Int.reduceEq, xA_1, xA_15, xA_255, xA_511, xA_65535, xA_32768]
      refine hk _ (fun j j0 j1 => ?_) (fun i i1 i2 => by rw [xw_ne _ i1, xw_ne _ i2, xw_ne _ i2, xw_ne _ i1])
      have hj := hT j j0 j1
      simp only [xw_app, vset]
      by_cases hjc : j = c <;> simp [hjc, hj.1, hj.2]
    · rw [if_neg hn] at hk
      simp (config := {contextual := true, maxSteps := 1000000}) (disch := omega) only [r104_0, r104_1, r104_4, r104_5, r104_8, r104_9, r104_12, r104_13, r104_16, r104_17, r104_18_T, r104_18_F, r104_18, r104_21, r104_22, r104_23, r104_26, r104_27, r104_28, r104_29, r104_30, r104_33, r104_34, r104_37, r104_38, r104_41, r104_42, r104_45, r104_46, r104_47, r104_48, r104_49, r104_50, r104_53, r104_54, r104_57, r104_58, r104_60_T, r104_60_F, r104_60, r104_63, r104_64, r104_67, r104_68, r104_71, r104_73, r104_74, r104_75, r104_78, r104_79, r104_82, r104_83, r104_86, r104_87, r104_90, r104_91, r104_92, r104_93, r104_94, hcx, h15, h16, xw_app, xAf_none, xAf_some, xu_app, Nat.reduceAdd, Nat.reduceSub, Nat.reduceEqDiff, Nat.reduceMul, reduceIte, and_self, and_true, true_and, and_false, false_and, true_implies, false_implies, implies_true, not_true_eq_false, not_false_eq_true, Int.reduceToNat, Int.reducePow, Int.reduceNeg, Int.reduceLT, Int.reduceLE, Int.reduceAdd, Int.reduceSub, Int.reduceMul, Int.reduceDiv, Int.reduceMod, Int.reduceEq, xA_1, xA_15, xA_255, xA_511, xA_65535, xA_32768]
      refine hk _ (fun j j0 j1 => ?_) (fun i i1 i2 => by rw [xw_ne _ i1, xw_ne _ i2, xw_ne _ i2, xw_ne _ i1])
      have hj := hT j j0 j1
      simp only [xw_app, vset]
      by_cases hjc : j = c <;> simp [hjc, hj.1, hj.2]
  · rw [if_neg h] at hk
    by_cases hn : e < 0
    · rw [if_pos hn] at hk
      simp (config := {contextual := true, maxSteps := 1000000}) (disch := omega) only [r104_0, r104_1, r104_4, r104_5, r104_8, r104_9, r104_12, r104_13, r104_16, r104_17, r104_18_T, r104_18_F, r104_18, r104_21, r104_22, r104_23, r104_26, r104_27, r104_28, r104_29, r104_30, r104_33, r104_34, r104_37, r104_38, r104_41, r104_42, r104_45, r104_46, r104_47, r104_48, r104_49, r104_50, r104_53, r104_54, r104_57, r104_58, r104_60_T, r104_60_F, r104_60, r104_63, r104_64, r104_67, r104_68, r104_71, r104_73, r104_74, r104_75, r104_78, r104_79, r104_82, r104_83, r104_86, r104_87, r104_90, r104_91, r104_92, r104_93, r104_94, hcx, h15, h16, xw_app, xAf_none, xAf_some, xu_app, Nat.reduceAdd, Nat.reduceSub, Nat.reduceEqDiff, Nat.reduceMul, reduceIte, and_self, and_true, true_and, and_false, false_and, true_implies, false_implies, implies_true, not_true_eq_false, not_false_eq_true, Int.reduceToNat, Int.reducePow, Int.reduceNeg, Int.reduceLT, Int.reduceLE, Int.reduceAdd, Int.reduceSub, Int.reduceMul, Int.reduceDiv, Int.reduceMod, Int.reduceEq, xA_1, xA_15, xA_255, xA_511, xA_65535, xA_32768]
      refine hk _ (fun j j0 j1 => ?_) (fun i i1 i2 => by rw [xw_ne _ i2, xw_ne _ i1])
      have hj := hT j j0 j1
      simp only [xw_app, vset]
      by_cases hjc : j = c <;> simp [hjc, hj.1, hj.2]
    · rw [if_neg hn] at hk
      simp (config := {contextual := true, maxSteps := 1000000}) (disch := omega) only [r104_0, r104_1, r104_4, r104_5, r104_8, r104_9, r104_12, r104_13, r104_16, r104_17, r104_18_T, r104_18_F, r104_18, r104_21, r104_22, r104_23, r104_26, r104_27, r104_28, r104_29, r104_30, r104_33, r104_34, r104_37, r104_38, r104_41, r104_42, r104_45, r104_46, r104_47, r104_48, r104_49, r104_50, r104_53, r104_54, r104_57, r104_58, r104_60_T, r104_60_F, r104_60, r104_63, r104_64, r104_67, r104_68, r104_71, r104_73, r104_74, r104_75, r104_78, r104_79, r104_82, r104_83, r104_86, r104_87, r104_90, r104_91, r104_92, r104_93, r104_94, hcx, h15, h16, xw_app, xAf_none, xAf_some, xu_app, Nat.reduceAdd, Nat.reduceSub, Nat.reduceEqDiff, Nat.reduceMul, reduceIte, and_self, and_true, true_and, and_false, false_and, true_implies, false_implies, implies_true, not_true_eq_false, not_false_eq_true, Int.reduceToNat, Int.reducePow, Int.reduceNeg, Int.reduceLT, Int.reduceLE, Int.reduceAdd, Int.reduceSub, Int.reduceMul, Int.reduceDiv, Int.reduceMod, Int.reduceEq, xA_1, xA_15, xA_255, xA_511, xA_65535, xA_32768]
      refine hk _ (fun j j0 j1 => ?_) (fun i i1 i2 => by rw [xw_ne _ i2, xw_ne _ i1])
      have hj := hT j j0 j1
      simp only [xw_app, vset]
      by_cases hjc : j = c <;> simp [hjc, hj.1, hj.2]
set_option maxRecDepth 100000 in
theorem p_mputBit (hM : xM0 f a σ) (hb : b = 0 ∨ b = 1) (hn : σ.2.2.2.1 < 1400) (hk : ∀ f' a', xM0 f' a' (bw σ b) → xFe f a f' a' → Q (hh f' a' g, .returned none)) : xTC d 106 [.ref 21, .int (xI b)] (hh f a g) Q := by
  have hI' := bw_I hM.2.2.2.2 hb
  obtain ⟨S, C, X, n, lf⟩ := σ
  obtain ⟨h29, h30, hD, hT, hC, hX0, hl0, hl1, hX2, hn0⟩ := hM
  dsimp only at h29 h30 hD hT hX0 hl0 hl1 hX2 hn0 hn
  unfold bw at hk hI'
  dsimp only at hk hI'
  rw [e106]
  by_cases hl : lf = 0
  · rw [if_pos hl] at hk hI'
    subst hl
    have em : (8 * (n : Int) - 0) % 8 = 0 := by omega
    have e1 : (n : Int) + 1 - 1 = n := by omega
    have eo : xO 0 (b * 128) = b * 128 := by
      have := xO_bit (u := 0) (b := b) (s := 7) (by omega) (by omega) (by omega) rfl hb
      rw [Int.zero_add] at this; exact this
    simp (config := {contextual := true, maxSteps := 1000000}) (disch := omega) only [r106_0, r106_1, r106_4, r106_6, r106_7_T, r106_7_F, r106_7, r106_10, r106_11, r106_14, r106_15, r106_18, r106_19, r106_20, r106_21, r106_22, r106_25, r106_26, r106_27, r106_30, r106_31, r106_34, r106_35, r106_38, r106_39, r106_40, r106_41, r106_44, r106_45, r106_48, r106_49, r106_50, r106_51, r106_52, r106_54, r106_55, r106_58, r106_60, r106_61, r106_62, r106_63, r106_64, r106_65, r106_66, r106_67, r106_70, r106_71, r106_72, r106_75, h29, h30, em, e1, xw_app, eo, xAf_none, xAf_some, xu_app, Nat.reduceAdd, Nat.reduceSub, Nat.reduceEqDiff, Nat.reduceMul, reduceIte, and_self, and_true, true_and, and_false, false_and, true_implies, false_implies, implies_true, not_true_eq_false, not_false_eq_true, Int.reduceToNat, Int.reducePow, Int.reduceNeg, Int.reduceLT, Int.reduceLE, Int.reduceAdd, Int.reduceSub, Int.reduceMul, Int.reduceDiv, Int.reduceMod, Int.reduceEq, xA_1, xA_15, xA_255, xA_511, xA_65535, xA_32768]
    refine hk _ _ ⟨?_, ?_, fun j hj => ?_, hT, hI'⟩ ⟨fun i hi => ?_, fun k k1 k2 k3 k4 k5 k6 => ?_, fun i i1 i2 i3 i4 => ?_⟩
    · rw [xu_app, if_neg (by omega), xu_app, if_pos ⟨rfl, rfl⟩]; rfl
    · rw [xu_app, if_pos ⟨rfl, rfl⟩]; dsimp only; omega
    · dsimp only at hj ⊢
      rw [show X * 256 + b * 128 = 256 * X + b * 128 by omega, dg_push _ _ _ (by omega) (by omega), xw_app]
      by_cases hjn : j = n
      · subst hjn; rw [if_pos ⟨rfl, rfl⟩]
        have := getD_last (B := dg X j) (v := b * 128); rw [dg_len] at this; exact this.symm
      · rw [if_neg (by omega), xw_app, if_neg (by omega), getD_snoc (by rw [dg_len]; omega)]; exact hD j (by omega)
    · rw [xu_ne _ hi, xu_ne _ hi]
    · rw [xu_app, if_neg (by omega), xu_app, if_neg (by omega)]
    · rw [xw_ne _ i4, xw_ne _ i4]
  · rw [if_neg hl] at hk hI'
    have hnn : n ≠ 0 := fun z => hl (hn0 z)
    obtain ⟨m, rfl⟩ : ∃ m, n = m + 1 := ⟨n - 1, by omega⟩
    have em : (8 * ((m + 1 : Nat) : Int) - lf) % 8 = 8 - lf := by omega
    have e1 : ((m + 1 : Nat) : Int) - 1 = m := by omega
    have e7 : 7 - (8 - lf) = lf - 1 := by omega
    have hlast : a 31 (m : Int) = X % 256 := by
      rw [hD m (by omega)]
      show (dg (X / 256) m ++ [X % 256]).getD m 0 = _
      have := getD_last (B := dg (X / 256) m) (v := X % 256); rw [dg_len] at this; exact this
    have hlf : lf = 1 ∨ lf = 2 ∨ lf = 3 ∨ lf = 4 ∨ lf = 5 ∨ lf = 6 ∨ lf = 7 := by omega
    have hpw : (X + b * 2 ^ (lf - 1).toNat) / 256 = X / 256 ∧ (X + b * 2 ^ (lf - 1).toNat) % 256 = X % 256 + b * 2 ^ (lf - 1).toNat ∧ (X % 256) % 2 ^ ((lf - 1).toNat + 1) = 0 := by
      rcases hlf with rfl | rfl | rfl | rfl | rfl | rfl | rfl <;> simp only [Int.reduceToNat, Int.reduceSub, Int.reducePow, Nat.reduceAdd] at hX2 ⊢ <;> rcases hb with rfl | rfl <;> omega
    have eo : xO (X % 256) (b * 2 ^ (lf - 1).toNat) = X % 256 + b * 2 ^ (lf - 1).toNat := xO_bit (by omega) (by omega) (by omega) hpw.2.2 hb
    simp (config := {contextual := true, maxSteps := 1000000}) (disch := omega) only [r106_0, r106_1, r106_4, r106_6, r106_7_T, r106_7_F, r106_7, r106_10, r106_11, r106_14, r106_15, r106_18, r106_19, r106_20, r106_21, r106_22, r106_25, r106_26, r106_27, r106_30, r106_31, r106_34, r106_35, r106_38, r106_39, r106_40, r106_41, r106_44, r106_45, r106_48, r106_49, r106_50, r106_51, r106_52, r106_54, r106_55, r106_58, r106_60, r106_61, r106_62, r106_63, r106_64, r106_65, r106_66, r106_67, r106_70, r106_71, r106_72, r106_75, h29, h30, em, e1, e7, hlast, eo, xAf_none, xAf_some, xu_app, Nat.reduceAdd, Nat.reduceSub, Nat.reduceEqDiff, Nat.reduceMul, reduceIte, and_self, and_true, true_and, and_false, false_and, true_implies, false_implies, implies_true, not_true_eq_false, not_false_eq_true, Int.reduceToNat, Int.reducePow, Int.reduceNeg, Int.reduceLT, Int.reduceLE, Int.reduceAdd, Int.reduceSub, Int.reduceMul, Int.reduceDiv, Int.reduceMod, Int.reduceEq, xA_1, xA_15, xA_255, xA_511, xA_65535, xA_32768]
    refine hk _ _ ⟨?_, ?_, fun j hj => ?_, hT, hI'⟩ ⟨fun i hi => ?_, fun k k1 k2 k3 k4 k5 k6 => ?_, fun i i1 i2 i3 i4 => ?_⟩
    · rw [xu_app, if_neg (by omega)]; exact h29
    · rw [xu_app, if_pos ⟨rfl, rfl⟩]; dsimp only; omega
    · dsimp only at hj ⊢
      rw [xw_app, show dg (X + b * 2 ^ (lf - 1).toNat) (m + 1) = dg ((X + b * 2 ^ (lf - 1).toNat) / 256) m ++ [(X + b * 2 ^ (lf - 1).toNat) % 256] from rfl, hpw.1, hpw.2.1]
      by_cases hjn : j = m
      · subst hjn; rw [if_pos ⟨rfl, rfl⟩]
        have := getD_last (B := dg (X / 256) j) (v := X % 256 + b * 2 ^ (lf - 1).toNat); rw [dg_len] at this; exact this.symm
      · rw [if_neg (by omega), getD_snoc (by rw [dg_len]; omega), hD j (by omega)]
        show (dg (X / 256) m ++ [X % 256]).getD j 0 = _
        rw [getD_snoc (by rw [dg_len]; omega)]
    · rw [xu_ne _ hi]
    · rw [xu_app, if_neg (by omega)]
    · rw [xw_ne _ i4]
theorem bw_n (σ : bS) (b : Int) : (bw σ b).2.2.2.1 ≤ σ.2.2.2.1 + 1 := by unfold bw; split <;> dsimp only <;> omega
/-- zeros -/
theorem l_mput0 {mm : Int} (r : Nat) : ∀ (σ : bS) (f : Nat → Nat → Int) (a : Nat → Int → Int), r ≤ 12 → 1 ≤ d → xM0 f a σ → σ.2.2.2.1 + r ≤ 1400 → (∀ f' a', xM0 f' a' (bZ σ r) → xFe f a f' a' → Q (hh f' a' g, .returned none)) →
    xT d 108 4 [.ref 21, .int (xI 0), .int (xI mm), .int (xI ((r : Int) - 1))] [] (hh f a g) Q := by
  induction r with
  | zero =>
    intro σ f a hr hd hM hn hk
    rw [r108_4]
    have hz : ((0 : Nat) : Int) - 1 < 0 := by omega
    simp (config := {contextual := true, maxSteps := 1000000}) (disch := omega) only [r108_0, r108_1, r108_2, r108_3, r108_5_T, r108_5_F, r108_5, r108_8, r108_9, r108_10, r108_11, r108_12, r108_13, r108_14, r108_17, r108_20, r108_23, xAf_none, xAf_some, xu_app, Nat.reduceAdd, Nat.reduceSub, Nat.reduceEqDiff, Nat.reduceMul, reduceIte, and_self, and_true, true_and, and_false, false_and, true_implies, false_implies, implies_true, not_true_eq_false, not_false_eq_true, Int.reduceToNat, Int.reducePow, Int.reduceNeg, Int.reduceLT, Int.reduceLE, Int.reduceAdd, Int.reduceSub, Int.reduceMul, Int.reduceDiv, Int.reduceMod, Int.reduceEq, xA_1, xA_15, xA_255, xA_511, xA_65535, xA_32768]
    exact hk _ _ hM (xFe.refl _ _)
  | succ r ih =>
    intro σ f a hr hd hM hn hk
    rw [r108_4]
    have e0 : ((r + 1 : Nat) : Int) - 1 = r := by omega
    have ez : (0 : Int) / 2 ^ ((r : Int)).toNat % 2 = 0 := by rw [Int.zero_ediv]; rfl
    rw [e0]
    simp (config := {contextual := true, maxSteps := 1000000}) (disch := omega) only [r108_0, r108_1, r108_2, r108_3, r108_5_T, r108_5_F, r108_5, r108_8, r108_9, r108_10, r108_11, r108_12, r108_13, r108_14, r108_17, r108_20, r108_23, ez, xAf_none, xAf_some, xu_app, Nat.reduceAdd, Nat.reduceSub, Nat.reduceEqDiff, Nat.reduceMul, reduceIte, and_self, and_true, true_and, and_false, false_and, true_implies, false_implies, implies_true, not_true_eq_false, not_false_eq_true, Int.reduceToNat, Int.reducePow, Int.reduceNeg, Int.reduceLT, Int.reduceLE, Int.reduceAdd, Int.reduceSub, Int.reduceMul, Int.reduceDiv, Int.reduceMod, Int.reduceEq, xA_1, xA_15, xA_255, xA_511, xA_65535, xA_32768]
    refine p_mputBit hM (.inl rfl) (by omega) fun f1 a1 M1 F1 => ?_
    simp (config := {contextual := true, maxSteps := 1000000}) (disch := omega) only [r108_0, r108_1, r108_2, r108_3, r108_5_T, r108_5_F, r108_5, r108_8, r108_9, r108_10, r108_11, r108_12, r108_13, r108_14, r108_17, r108_20, r108_23, xAf_none, xAf_some, xu_app, Nat.reduceAdd, Nat.reduceSub, Nat.reduceEqDiff, Nat.reduceMul, reduceIte, and_self, and_true, true_and, and_false, false_and, true_implies, false_implies, implies_true, not_true_eq_false, not_false_eq_true, Int.reduceToNat, Int.reducePow, Int.reduceNeg, Int.reduceLT, Int.reduceLE, Int.reduceAdd, Int.reduceSub, Int.reduceMul, Int.reduceDiv, Int.reduceMod, Int.reduceEq, xA_1, xA_15, xA_255, xA_511, xA_65535, xA_32768]
    have hn1 := bw_n σ 0
    exact ih _ f1 a1 (by omega) hd M1 (by omega) fun f2 a2 M2 F2 => hk _ _ M2 (F1.trans F2)
theorem l_mputm (m0 : 0 ≤ m) (m1 : m ≤ 511) {mm : Int} (r : Nat) : ∀ (σ : bS) (f : Nat → Nat → Int) (a : Nat → Int → Int), r ≤ 12 → 1 ≤ d → xM0 f a σ → σ.2.2.2.1 + r ≤ 1400 → (∀ f' a', xM0 f' a' (bD σ m r) → xFe f a f' a' → Q (hh f' a' g, .returned none)) →
    xT d 108 4 [.ref 21, .int (xI m), .int (xI mm), .int (xI ((r : Int) - 1))] [] (hh f a g) Q := by
  induction r with
  | zero =>
    intro σ f a hr hd hM hn hk
    rw [r108_4]
    have hz : ((0 : Nat) : Int) - 1 < 0 := by omega
    simp (config := {contextual := true, maxSteps := 1000000}) (disch := omega) only [r108_0, r108_1, r108_2, r108_3, r108_5_T, r108_5_F, r108_5, r108_8, r108_9, r108_10, r108_11, r108_12, r108_13, r108_14, r108_17, r108_20, r108_23, xAf_none, xAf_some, xu_app, Nat.reduceAdd, Nat.reduceSub, Nat.reduceEqDiff, Nat.reduceMul, reduceIte, and_self, and_true, true_and, and_false, false_and, true_implies, false_implies, implies_true, not_true_eq_false, not_false_eq_true, Int.reduceToNat, Int.reducePow, Int.reduceNeg, Int.reduceLT, Int.reduceLE, Int.reduceAdd, Int.reduceSub, Int.reduceMul, Int.reduceDiv, Int.reduceMod, Int.reduceEq, xA_1, xA_15, xA_255, xA_511, xA_65535, xA_32768]
    exact hk _ _ hM (xFe.refl _ _)
  | succ r ih =>
    intro σ f a hr hd hM hn hk
    rw [r108_4]
    have e0 : ((r + 1 : Nat) : Int) - 1 = r := by omega
    have et : ((r : Int)).toNat = r := by omega
    rw [e0]
    simp (config := {contextual := true, maxSteps := 1000000}) (disch := omega) only [r108_0, r108_1, r108_2, r108_3, r108_5_T, r108_5_F, r108_5, r108_8, r108_9, r108_10, r108_11, r108_12, r108_13, r108_14, r108_17, r108_20, r108_23, et, xAf_none, xAf_some, xu_app, Nat.reduceAdd, Nat.reduceSub, Nat.reduceEqDiff, Nat.reduceMul, reduceIte, and_self, and_true, true_and, and_false, false_and, true_implies, false_implies, implies_true, not_true_eq_false, not_false_eq_true, Int.reduceToNat, Int.reducePow, Int.reduceNeg, Int.reduceLT, Int.reduceLE, Int.reduceAdd, Int.reduceSub, Int.reduceMul, Int.reduceDiv, Int.reduceMod, Int.reduceEq, xA_1, xA_15, xA_255, xA_511, xA_65535, xA_32768]
    refine p_mputBit hM (by omega) (by omega) fun f1 a1 M1 F1 => ?_
    simp (config := {contextual := true, maxSteps := 1000000}) (disch := omega) only [r108_0, r108_1, r108_2, r108_3, r108_5_T, r108_5_F, r108_5, r108_8, r108_9, r108_10, r108_11, r108_12, r108_13, r108_14, r108_17, r108_20, r108_23, xAf_none, xAf_some, xu_app, Nat.reduceAdd, Nat.reduceSub, Nat.reduceEqDiff, Nat.reduceMul, reduceIte, and_self, and_true, true_and, and_false, false_and, true_implies, false_implies, implies_true, not_true_eq_false, not_false_eq_true, Int.reduceToNat, Int.reducePow, Int.reduceNeg, Int.reduceLT, Int.reduceLE, Int.reduceAdd, Int.reduceSub, Int.reduceMul, Int.reduceDiv, Int.reduceMod, Int.reduceEq, xA_1, xA_15, xA_255, xA_511, xA_65535, xA_32768]
    have hn1 := bw_n σ (m / 2 ^ r % 2)
    exact ih _ f1 a1 (by omega) hd M1 (by omega) fun f2 a2 M2 F2 => hk _ _ M2 (F1.trans F2)
theorem bZ_n (r : Nat) : ∀ (σ : bS), (bZ σ r).2.2.2.1 ≤ σ.2.2.2.1 + r := by
  induction r with
  | zero => intro σ; exact Nat.le_refl _
  | succ r ih => intro σ; have := ih (bw σ 0); have := bw_n σ 0; show (bZ (bw σ 0) r).2.2.2.1 ≤ _; omega
set_option maxRecDepth 100000 in
theorem p_mcodeb {c : Int} (hM : xM0 f a σ) (hcx : f 21 26 = c) (c0 : 0 ≤ c) (c1 : c < 126) (e0 : -256 ≤ e) (e1 : e ≤ 255) (hd : 3 ≤ d) (hn : σ.2.2.2.1 + 30 ≤ 1400) (hk : ∀ f' a', xM0 f' a' (bE σ c e) → xFe f a f' a' → Q (hh f' a' g, .returned none)) : xTC d 109 [.ref 21, .int (xI e)] (hh f a g) Q := by
  have hT := hM.2.2.2.1
  have hC := hM.2.2.2.2.1
  have hTc := hT c c0 c1
  have hCc := hC c
  obtain ⟨m, hm⟩ : ∃ m, zig e = m := ⟨_, rfl⟩
  have hm0 : 0 ≤ m ∧ m ≤ 511 := by rw [← hm]; unfold zig; split <;> omega
  unfold bE at hk
  rw [hm] at hk
  obtain ⟨k, hlow⟩ : ∃ k, low (σ.1 c) (σ.2.1 c) = k := ⟨_, rfl⟩
  have hk8 : k ≤ 8 := by rw [← hlow]; exact low_le _ _
  rw [hlow] at hk
  rw [← hTc.1, ← hTc.2] at hlow
  have h28 := hTc.1
  have h29 := hTc.2
  rw [h28, h29] at hlow
  have et : ((k : Int)).toNat = k := by omega
  have hbd := div_bound hm0.1 k
  have hlearn : ∀ (τ : bS) (f1 : Nat → Nat → Int) (a1 : Nat → Int → Int) (l0 l1 l2 : Value), xM0 f1 a1 τ → xFe f a f1 a1 → (∀ f' a', xM0 f' a' (bL τ c e) → xFe f a f' a' → Q (hh f' a' g, .returned none)) → xT d 109 76 [.ref 21, .int (xI e), l0, l1, l2] [] (hh f1 a1 g) Q := fun τ f1 a1 l0 l1 l2 M1 F1 hk1 => by
    simp (config := {contextual := true, maxSteps := 1000000}) (disch := omega) only [r109_0, r109_1, r109_4, r109_5, r109_6_T, r109_6_F, r109_6, r109_9, r109_11, r109_12, r109_13, r109_14, r109_15, r109_18, r109_19, r109_20, r109_21, r109_22, r109_23, r109_24, r109_25, r109_27, r109_28, r109_29, r109_31, r109_33_T, r109_33_F, r109_33, r109_36, r109_38, r109_41, r109_43, r109_46, r109_48, r109_50_T, r109_50_F, r109_50, r109_53, r109_54, r109_55, r109_58, r109_59, r109_60, r109_62, r109_64_T, r109_64_F, r109_64, r109_67, r109_68, r109_71, r109_73, r109_76, r109_77, r109_78, r109_81, xAf_none, xAf_some, xu_app, Nat.reduceAdd, Nat.reduceSub, Nat.reduceEqDiff, Nat.reduceMul, reduceIte, and_self, and_true, true_and, and_false, false_and, true_implies, false_implies, implies_true, not_true_eq_false, not_false_eq_true, Int.reduceToNat, Int.reducePow, Int.reduceNeg, Int.reduceLT, Int.reduceLE, Int.reduceAdd, Int.reduceSub, Int.reduceMul, Int.reduceDiv, Int.reduceMod, Int.reduceEq, xA_1, xA_15, xA_255, xA_511, xA_65535, xA_32768]
    have hI1 := bL_I M1.2.2.2.2 (c := c) e0 (show e ≤ 256 by omega)
    refine p_mlearn (c := c) (by rw [F1.2.1 26 (by decide) (by decide) (by decide) (by decide) (by decide) (by decide)]; exact hcx) M1.2.2.2.1 M1.2.2.2.2.1 c0 c1 e0 (by omega) fun a2 T2 F2 => ?_
    simp (config := {contextual := true, maxSteps := 1000000}) (disch := omega) only [r109_0, r109_1, r109_4, r109_5, r109_6_T, r109_6_F, r109_6, r109_9, r109_11, r109_12, r109_13, r109_14, r109_15, r109_18, r109_19, r109_20, r109_21, r109_22, r109_23, r109_24, r109_25, r109_27, r109_28, r109_29, r109_31, r109_33_T, r109_33_F, r109_33, r109_36, r109_38, r109_41, r109_43, r109_46, r109_48, r109_50_T, r109_50_F, r109_50, r109_53, r109_54, r109_55, r109_58, r109_59, r109_60, r109_62, r109_64_T, r109_64_F, r109_64, r109_67, r109_68, r109_71, r109_73, r109_76, r109_77, r109_78, r109_81, xAf_none, xAf_some, xu_app, Nat.reduceAdd, Nat.reduceSub, Nat.reduceEqDiff, Nat.reduceMul, reduceIte, and_self, and_true, true_and, and_false, false_and, true_implies, false_implies, implies_true, not_true_eq_false, not_false_eq_true, Int.reduceToNat, Int.reducePow, Int.reduceNeg, Int.reduceLT, Int.reduceLE, Int.reduceAdd, Int.reduceSub, Int.reduceMul, Int.reduceDiv, Int.reduceMod, Int.reduceEq, xA_1, xA_15, xA_255, xA_511, xA_65535, xA_32768]
    have hb : (bL τ c e).2.2 = τ.2.2 := by unfold bL; split <;> rfl
    refine hk1 _ _ ⟨?_, ?_, ?_, T2, hI1⟩ (F1.trans ⟨fun _ _ => rfl, fun _ _ _ _ _ _ _ => rfl, fun i i1 i2 i3 i4 => F2 i i1 i2⟩)
    · rw [hb]; exact M1.1
    · rw [hb]; exact M1.2.1
    · rw [hb, F2 31 (by decide) (by decide)]; exact M1.2.2.1
  have hmain : xT d 109 22 [.ref 21, .int (xI e), .int (xI (k : Int)), .int (xI m), .null] [] (hh f a g) Q := by
    by_cases hw : m / 2 ^ k < 12
    · rw [if_pos hw] at hk
      obtain ⟨wn, hwn⟩ : ∃ wn : Nat, (m / 2 ^ k) = wn := ⟨(m / 2 ^ k).toNat, by omega⟩
      have ew : (m / 2 ^ k).toNat = wn := by omega
      rw [ew] at hk
      simp (config := {contextual := true, maxSteps := 1000000}) (disch := omega) only [r109_0, r109_1, r109_4, r109_5, r109_6_T, r109_6_F, r109_6, r109_9, r109_11, r109_12, r109_13, r109_14, r109_15, r109_18, r109_19, r109_20, r109_21, r109_22, r109_23, r109_24, r109_25, r109_27, r109_28, r109_29, r109_31, r109_33_T, r109_33_F, r109_33, r109_36, r109_38, r109_41, r109_43, r109_46, r109_48, r109_50_T, r109_50_F, r109_50, r109_53, r109_54, r109_55, r109_58, r109_59, r109_60, r109_62, r109_64_T, r109_64_F, r109_64, r109_67, r109_68, r109_71, r109_73, r109_76, r109_77, r109_78, r109_81, et, hwn, e108, xAf_none, xAf_some, xu_app, Nat.reduceAdd, Nat.reduceSub, Nat.reduceEqDiff, Nat.reduceMul, reduceIte, and_self, and_true, true_and, and_false, false_and, true_implies, false_implies, implies_true, not_true_eq_false, not_false_eq_true, Int.reduceToNat, Int.reducePow, Int.reduceNeg, Int.reduceLT, Int.reduceLE, Int.reduceAdd, Int.reduceSub, Int.reduceMul, Int.reduceDiv, Int.reduceMod, Int.reduceEq, xA_1, xA_15, xA_255, xA_511, xA_65535, xA_32768]
      rw [show e = e from rfl]
      simp (config := {contextual := true, maxSteps := 1000000}) (disch := omega) only [r108_0, r108_1, r108_2, r108_3, r108_5_T, r108_5_F, r108_5, r108_8, r108_9, r108_10, r108_11, r108_12, r108_13, r108_14, r108_17, r108_20, r108_23, xAf_none, xAf_some, xu_app, Nat.reduceAdd, Nat.reduceSub, Nat.reduceEqDiff, Nat.reduceMul, reduceIte, and_self, and_true, true_and, and_false, false_and, true_implies, false_implies, implies_true, not_true_eq_false, not_false_eq_true, Int.reduceToNat, Int.reducePow, Int.reduceNeg, Int.reduceLT, Int.reduceLE, Int.reduceAdd, Int.reduceSub, Int.reduceMul, Int.reduceDiv, Int.reduceMod, Int.reduceEq, xA_1, xA_15, xA_255, xA_511, xA_65535, xA_32768]
      refine l_mput0 wn σ f a (by omega) (by omega) hM (by omega) fun f1 a1 M1 F1 => ?_
      have n1 := bZ_n wn σ
      simp (config := {contextual := true, maxSteps := 1000000}) (disch := omega) only [r109_0, r109_1, r109_4, r109_5, r109_6_T, r109_6_F, r109_6, r109_9, r109_11, r109_12, r109_13, r109_14, r109_15, r109_18, r109_19, r109_20, r109_21, r109_22, r109_23, r109_24, r109_25, r109_27, r109_28, r109_29, r109_31, r109_33_T, r109_33_F, r109_33, r109_36, r109_38, r109_41, r109_43, r109_46, r109_48, r109_50_T, r109_50_F, r109_50, r109_53, r109_54, r109_55, r109_58, r109_59, r109_60, r109_62, r109_64_T, r109_64_F, r109_64, r109_67, r109_68, r109_71, r109_73, r109_76, r109_77, r109_78, r109_81, xAf_none, xAf_some, xu_app, Nat.reduceAdd, Nat.reduceSub, Nat.reduceEqDiff, Nat.reduceMul, reduceIte, and_self, and_true, true_and, and_false, false_and, true_implies, false_implies, implies_true, not_true_eq_false, not_false_eq_true, Int.reduceToNat, Int.reducePow, Int.reduceNeg, Int.reduceLT, Int.reduceLE, Int.reduceAdd, Int.reduceSub, Int.reduceMul, Int.reduceDiv, Int.reduceMod, Int.reduceEq, xA_1, xA_15, xA_255, xA_511, xA_65535, xA_32768]
      refine p_mputBit M1 (.inr rfl) (by omega) fun f2 a2 M2 F2 => ?_
      have n2 := bw_n (bZ σ wn) 1
      simp (config := {contextual := true, maxSteps := 1000000}) (disch := omega) only [r109_0, r109_1, r109_4, r109_5, r109_6_T, r109_6_F, r109_6, r109_9, r109_11, r109_12, r109_13, r109_14, r109_15, r109_18, r109_19, r109_20, r109_21, r109_22, r109_23, r109_24, r109_25, r109_27, r109_28, r109_29, r109_31, r109_33_T, r109_33_F, r109_33, r109_36, r109_38, r109_41, r109_43, r109_46, r109_48, r109_50_T, r109_50_F, r109_50, r109_53, r109_54, r109_55, r109_58, r109_59, r109_60, r109_62, r109_64_T, r109_64_F, r109_64, r109_67, r109_68, r109_71, r109_73, r109_76, r109_77, r109_78, r109_81, e108, xAf_none, xAf_some, xu_app, Nat.reduceAdd, Nat.reduceSub, Nat.reduceEqDiff, Nat.reduceMul, reduceIte, and_self, and_true, true_and, and_false, false_and, true_implies, false_implies, implies_true, not_true_eq_false, not_false_eq_true, Int.reduceToNat, Int.reducePow, Int.reduceNeg, Int.reduceLT, Int.reduceLE, Int.reduceAdd, Int.reduceSub, Int.reduceMul, Int.reduceDiv, Int.reduceMod, Int.reduceEq, xA_1, xA_15, xA_255, xA_511, xA_65535, xA_32768]
      simp (config := {contextual := true, maxSteps := 1000000}) (disch := omega) only [r108_0, r108_1, r108_2, r108_3, r108_5_T, r108_5_F, r108_5, r108_8, r108_9, r108_10, r108_11, r108_12, r108_13, r108_14, r108_17, r108_20, r108_23, xAf_none, xAf_some, xu_app, Nat.reduceAdd, Nat.reduceSub, Nat.reduceEqDiff, Nat.reduceMul, reduceIte, and_self, and_true, true_and, and_false, false_and, true_implies, false_implies, implies_true, not_true_eq_false, not_false_eq_true, Int.reduceToNat, Int.reducePow, Int.reduceNeg, Int.reduceLT, Int.reduceLE, Int.reduceAdd, Int.reduceSub, Int.reduceMul, Int.reduceDiv, Int.reduceMod, Int.reduceEq, xA_1, xA_15, xA_255, xA_511, xA_65535, xA_32768]
      refine l_mputm hm0.1 hm0.2 k _ f2 a2 (by omega) (by omega) M2 (by omega) fun f3 a3 M3 F3 => ?_
      simp (config := {contextual := true, maxSteps := 1000000}) (disch := omega) only [r109_0, r109_1, r109_4, r109_5, r109_6_T, r109_6_F, r109_6, r109_9, r109_11, r109_12, r109_13, r109_14, r109_15, r109_18, r109_19, r109_20, r109_21, r109_22, r109_23, r109_24, r109_25, r109_27, r109_28, r109_29, r109_31, r109_33_T, r109_33_F, r109_33, r109_36, r109_38, r109_41, r109_43, r109_46, r109_48, r109_50_T, r109_50_F, r109_50, r109_53, r109_54, r109_55, r109_58, r109_59, r109_60, r109_62, r109_64_T, r109_64_F, r109_64, r109_67, r109_68, r109_71, r109_73, r109_77, r109_78, r109_81, xAf_none, xAf_some, xu_app, Nat.reduceAdd, Nat.reduceSub, Nat.reduceEqDiff, Nat.reduceMul, reduceIte, and_self, and_true, true_and, and_false, false_and, true_implies, false_implies, implies_true, not_true_eq_false, not_false_eq_true, Int.reduceToNat, Int.reducePow, Int.reduceNeg, Int.reduceLT, Int.reduceLE, Int.reduceAdd, Int.reduceSub, Int.reduceMul, Int.reduceDiv, Int.reduceMod, Int.reduceEq, xA_1, xA_15, xA_255, xA_511, xA_65535, xA_32768]
      exact hlearn _ f3 a3 _ _ _ M3 ((F1.trans F2).trans F3) hk
    · rw [if_neg hw] at hk
      simp (config := {contextual := true, maxSteps := 1000000}) (disch := omega) only [r109_0, r109_1, r109_4, r109_5, r109_6_T, r109_6_F, r109_6, r109_9, r109_11, r109_12, r109_13, r109_14, r109_15, r109_18, r109_19, r109_20, r109_21, r109_22, r109_23, r109_24, r109_25, r109_27, r109_28, r109_29, r109_31, r109_33_T, r109_33_F, r109_33, r109_36, r109_38, r109_41, r109_43, r109_46, r109_48, r109_50_T, r109_50_F, r109_50, r109_53, r109_54, r109_55, r109_58, r109_59, r109_60, r109_62, r109_64_T, r109_64_F, r109_64, r109_67, r109_68, r109_71, r109_73, r109_76, r109_77, r109_78, r109_81, et, e108, xAf_none, xAf_some, xu_app, Nat.reduceAdd, Nat.reduceSub, Nat.reduceEqDiff, Nat.reduceMul, reduceIte, and_self, and_true, true_and, and_false, false_and, true_implies, false_implies, implies_true, not_true_eq_false, not_false_eq_true, Int.reduceToNat, Int.reducePow, Int.reduceNeg, Int.reduceLT, Int.reduceLE, Int.reduceAdd, Int.reduceSub, Int.reduceMul, Int.reduceDiv, Int.reduceMod, Int.reduceEq, xA_1, xA_15, xA_255, xA_511, xA_65535, xA_32768]
      simp (config := {contextual := true, maxSteps := 1000000}) (disch := omega) only [r108_0, r108_1, r108_2, r108_3, r108_5_T, r108_5_F, r108_5, r108_8, r108_9, r108_10, r108_11, r108_12, r108_13, r108_14, r108_17, r108_20, r108_23, xAf_none, xAf_some, xu_app, Nat.reduceAdd, Nat.reduceSub, Nat.reduceEqDiff, Nat.reduceMul, reduceIte, and_self, and_true, true_and, and_false, false_and, true_implies, false_implies, implies_true, not_true_eq_false, not_false_eq_true, Int.reduceToNat, Int.reducePow, Int.reduceNeg, Int.reduceLT, Int.reduceLE, Int.reduceAdd, Int.reduceSub, Int.reduceMul, Int.reduceDiv, Int.reduceMod, Int.reduceEq, xA_1, xA_15, xA_255, xA_511, xA_65535, xA_32768]
      refine l_mput0 12 σ f a (by omega) (by omega) hM (by omega) fun f1 a1 M1 F1 => ?_
      have n1 := bZ_n 12 σ
      simp (config := {contextual := true, maxSteps := 1000000}) (disch := omega) only [r109_0, r109_1, r109_4, r109_5, r109_6_T, r109_6_F, r109_6, r109_9, r109_11, r109_12, r109_13, r109_14, r109_15, r109_18, r109_19, r109_20, r109_21, r109_22, r109_23, r109_24, r109_25, r109_27, r109_28, r109_29, r109_31, r109_33_T, r109_33_F, r109_33, r109_36, r109_38, r109_41, r109_43, r109_46, r109_48, r109_50_T, r109_50_F, r109_50, r109_53, r109_54, r109_55, r109_58, r109_59, r109_60, r109_62, r109_64_T, r109_64_F, r109_64, r109_67, r109_68, r109_71, r109_73, r109_76, r109_77, r109_78, r109_81, e108, xAf_none, xAf_some, xu_app, Nat.reduceAdd, Nat.reduceSub, Nat.reduceEqDiff, Nat.reduceMul, reduceIte, and_self, and_true, true_and, and_false, false_and, true_implies, false_implies, implies_true, not_true_eq_false, not_false_eq_true, Int.reduceToNat, Int.reducePow, Int.reduceNeg, Int.reduceLT, Int.reduceLE, Int.reduceAdd, Int.reduceSub, Int.reduceMul, Int.reduceDiv, Int.reduceMod, Int.reduceEq, xA_1, xA_15, xA_255, xA_511, xA_65535, xA_32768]
      simp (config := {contextual := true, maxSteps := 1000000}) (disch := omega) only [r108_0, r108_1, r108_2, r108_3, r108_5_T, r108_5_F, r108_5, r108_8, r108_9, r108_10, r108_11, r108_12, r108_13, r108_14, r108_17, r108_20, r108_23, xAf_none, xAf_some, xu_app, Nat.reduceAdd, Nat.reduceSub, Nat.reduceEqDiff, Nat.reduceMul, reduceIte, and_self, and_true, true_and, and_false, false_and, true_implies, false_implies, implies_true, not_true_eq_false, not_false_eq_true, Int.reduceToNat, Int.reducePow, Int.reduceNeg, Int.reduceLT, Int.reduceLE, Int.reduceAdd, Int.reduceSub, Int.reduceMul, Int.reduceDiv, Int.reduceMod, Int.reduceEq, xA_1, xA_15, xA_255, xA_511, xA_65535, xA_32768]
      refine l_mputm hm0.1 hm0.2 9 _ f1 a1 (by omega) (by omega) M1 (by omega) fun f3 a3 M3 F3 => ?_
      simp (config := {contextual := true, maxSteps := 1000000}) (disch := omega) only [r109_0, r109_1, r109_4, r109_5, r109_6_T, r109_6_F, r109_6, r109_9, r109_11, r109_12, r109_13, r109_14, r109_15, r109_18, r109_19, r109_20, r109_21, r109_22, r109_23, r109_24, r109_25, r109_27, r109_28, r109_29, r109_31, r109_33_T, r109_33_F, r109_33, r109_36, r109_38, r109_41, r109_43, r109_46, r109_48, r109_50_T, r109_50_F, r109_50, r109_53, r109_54, r109_55, r109_58, r109_59, r109_60, r109_62, r109_64_T, r109_64_F, r109_64, r109_67, r109_68, r109_71, r109_73, r109_77, r109_78, r109_81, xAf_none, xAf_some, xu_app, Nat.reduceAdd, Nat.reduceSub, Nat.reduceEqDiff, Nat.reduceMul, reduceIte, and_self, and_true, true_and, and_false, false_and, true_implies, false_implies, implies_true, not_true_eq_false, not_false_eq_true, Int.reduceToNat, Int.reducePow, Int.reduceNeg, Int.reduceLT, Int.reduceLE, Int.reduceAdd, Int.reduceSub, Int.reduceMul, Int.reduceDiv, Int.reduceMod, Int.reduceEq, xA_1, xA_15, xA_255, xA_511, xA_65535, xA_32768]
      exact hlearn _ f3 a3 _ _ _ M3 (F1.trans F3) hk
  rw [e109]
  have hq1 : 0 ≤ f 21 26 ∧ f 21 26 < 126 := by omega
  have hq2 : 1 ≤ a 29 (f 21 26) ∧ a 29 (f 21 26) ≤ 15 := by rw [hcx, h29]; omega
  have hq3 : 0 ≤ a 28 (f 21 26) ∧ a 28 (f 21 26) ≤ 256 * a 29 (f 21 26) := by rw [hcx, h28, h29]; omega
  by_cases hn' : e < 0
  · have hmn : -2 * e - 1 = m := by rw [← hm]; unfold zig; rw [if_pos hn']
    simp (config := {contextual := true, maxSteps := 1000000}) (disch := omega) only [r109_0, r109_1, r109_4, r109_5, r109_6_T, r109_6_F, r109_6, r109_9, r109_11, r109_12, r109_13, r109_14, r109_15, r109_18, r109_19, r109_20, r109_21, r109_23, r109_24, r109_25, r109_27, r109_28, r109_29, r109_31, r109_33_T, r109_33_F, r109_33, r109_36, r109_38, r109_41, r109_43, r109_46, r109_48, r109_50_T, r109_50_F, r109_50, r109_53, r109_54, r109_55, r109_58, r109_59, r109_60, r109_62, r109_64_T, r109_64_F, r109_64, r109_67, r109_68, r109_71, r109_73, r109_76, r109_77, r109_78, r109_81, s_mlow, hcx, h28, h29, hlow, hmn, xAf_none, xAf_some, xu_app, Nat.reduceAdd, Nat.reduceSub, Nat.reduceEqDiff, Nat.reduceMul, reduceIte, and_self, and_true, true_and, and_false, false_and, true_implies, false_implies, implies_true, not_true_eq_false, not_false_eq_true, Int.reduceToNat, Int.reducePow, Int.reduceNeg, Int.reduceLT, Int.reduceLE, Int.reduceAdd, Int.reduceSub, Int.reduceMul, Int.reduceDiv, Int.reduceMod, Int.reduceEq, xA_1, xA_15, xA_255, xA_511, xA_65535, xA_32768]
    exact hmain
  · have hmn : 2 * e = m := by rw [← hm]; unfold zig; rw [if_neg hn']
    simp (config := {contextual := true, maxSteps := 1000000}) (disch := omega) only [r109_0, r109_1, r109_4, r109_5, r109_6_T, r109_6_F, r109_6, r109_9, r109_11, r109_12, r109_13, r109_14, r109_15, r109_18, r109_19, r109_20, r109_21, r109_23, r109_24, r109_25, r109_27, r109_28, r109_29, r109_31, r109_33_T, r109_33_F, r109_33, r109_36, r109_38, r109_41, r109_43, r109_46, r109_48, r109_50_T, r109_50_F, r109_50, r109_53, r109_54, r109_55, r109_58, r109_59, r109_60, r109_62, r109_64_T, r109_64_F, r109_64, r109_67, r109_68, r109_71, r109_73, r109_76, r109_77, r109_78, r109_81, s_mlow, hcx, h28, h29, hlow, hmn, xAf_none, xAf_some, xu_app, Nat.reduceAdd, Nat.reduceSub, Nat.reduceEqDiff, Nat.reduceMul, reduceIte, and_self, and_true, true_and, and_false, false_and, true_implies, false_implies, implies_true, not_true_eq_false, not_false_eq_true, Int.reduceToNat, Int.reducePow, Int.reduceNeg, Int.reduceLT, Int.reduceLE, Int.reduceAdd, Int.reduceSub, Int.reduceMul, Int.reduceDiv, Int.reduceMod, Int.reduceEq, xA_1, xA_15, xA_255, xA_511, xA_65535, xA_32768]
    exact hmain
end S50
