/-! DIGITS -/
/-- the n digits of X to the base 256 -/
def dg : Int → Nat → List Int
  | _, 0 => []
  | X, n + 1 => dg (X / 256) n ++ [X % 256]
theorem dg_len (n : Nat) : ∀ X, (dg X n).length = n := by
  induction n with
  | zero => intro X; rfl
  | succ n ih => intro X; show (dg (X / 256) n ++ [X % 256]).length = n + 1; rw [List.length_append, ih]; rfl
theorem dg_push (X b : Int) (n : Nat) (b0 : 0 ≤ b) (b1 : b < 256) : dg (256 * X + b) (n + 1) = dg X n ++ [b] := by
  show dg ((256 * X + b) / 256) n ++ [(256 * X + b) % 256] = _
  rw [show (256 * X + b) / 256 = X by omega, show (256 * X + b) % 256 = b by omega]
theorem dg_byte (n : Nat) : ∀ (X : Int) (v : Int), v ∈ dg X n → 0 ≤ v ∧ v ≤ 255 := by
  induction n with
  | zero => intro X v hv; cases hv
  | succ n ih =>
    intro X v hv
    rcases List.mem_append.mp hv with h | h
    · exact ih _ _ h
    · rw [List.mem_singleton] at h; omega
theorem dg_getD (n : Nat) : ∀ (X : Int) (j : Nat), j < n → (dg X n).getD j 0 = X / 256 ^ (n - 1 - j) % 256 := by
  induction n with
  | zero => intro X j hj; omega
  | succ n ih =>
    intro X j hj
    show (dg (X / 256) n ++ [X % 256]).getD j 0 = _
    by_cases h : j < n
    · rw [getD_app_l (by rw [dg_len]; exact h), ih _ _ h, show n + 1 - 1 - j = (n - 1 - j) + 1 by omega, Int.pow_succ, Int.mul_comm, ← Int.ediv_ediv_of_nonneg (by omega)]
    · have hj' : j = n := by omega
      subst hj'
      rw [getD_app_r (by rw [dg_len]; omega), dg_len, show j - j = 0 by omega, show j + 1 - 1 - j = 0 by omega]
      simp
section S41
variable {d : Nat} {Q : xm_H × Outcome → Prop} {f : Nat → Nat → Int} {g : xG} {s y : Int}
theorem l_raise (s0 : 0 ≤ s) (n : Nat) : ∀ (a : Nat → Int → Int) (X c : Int) (w : Value), s + n ≤ 1200 → (∀ j : Nat, j < n → a 11 (s + j) = (dg X n).getD j 0) → 0 ≤ X → 0 ≤ c → c ≤ 65535 → X + c < 256 ^ n → (∀ j, 0 ≤ a 11 j ∧ a 11 j ≤ 255) →
    (∀ a', (∀ j : Nat, j < n → a' 11 (s + j) = (dg (X + c) n).getD j 0) → (∀ j, j < s ∨ s + n ≤ j → a' 11 j = a 11 j) → (∀ j, 0 ≤ a' 11 j ∧ a' 11 j ≤ 255) → (∀ i, i ≠ 11 → a' i = a i) → Q (hh f a' g, .returned none)) →
    xT d 42 10 [.ref 10, .int (xI s), .int (xI y), .int (xI c), .int (xI (s + n - 1)), w] [] (hh f a g) Q := by
  induction n with
  | zero =>
    intro a X c w hs ha X0 c0 c1 hX hby hk
    rw [r42_10]
    have hc : s + ((0 : Nat) : Int) - 1 < s := by omega
    simp (config := {contextual := true, maxSteps := 1000000}) (disch := omega) only [r42_0, r42_1, r42_2, r42_3, r42_3_1, r42_6, r42_7, r42_8, r42_12, r42_13, r42_16, r42_18, r42_21, r42_22, r42_25, r42_26, r42_26_1, r42_29, r42_31, r42_31_1, r42_32, r42_33, r42_34, r42_36, r42_37, r42_37_1, r42_40, r42_42, r42_44, r42_47, r42_48, r42_48_1, r42_49, r42_51, r42_54, r42_55, r42_56, r42_59, r42_62, hc, xAf_none, xAf_some, xu_app, Nat.reduceAdd, Nat.reduceSub, Nat.reduceEqDiff, Nat.reduceMul, reduceIte, and_self, and_true, true_and, and_false, false_and, true_implies, false_implies, implies_true, not_true_eq_false, not_false_eq_true, Int.reduceToNat, Int.reducePow, Int.reduceNeg, Int.reduceLT, Int.reduceLE, Int.reduceAdd, Int.reduceSub, Int.reduceMul, Int.reduceDiv, Int.reduceMod, Int.reduceEq, xA_1, xA_15, xA_255, xA_511, xA_65535, xA_32768]
    exact hk a (fun j hj => by omega) (fun _ _ => rfl) hby (fun _ _ => rfl)
  | succ n ih =>
    intro a X c w hs ha X0 c0 c1 hX hby hk
    rw [r42_10]
    have hc : ¬ s + ((n + 1 : Nat) : Int) - 1 < s := by omega
    have hc2 : ¬ s + ((n + 1 : Nat) : Int) - 1 < 0 := by omega
    by_cases hz : 0 < c
    · have hlast : a 11 (s + ((n + 1 : Nat) : Int) - 1) = X % 256 := by
        have := ha n (by omega)
        rw [show (dg X (n + 1)) = dg (X / 256) n ++ [X % 256] from rfl, getD_app_r (by rw [dg_len]; omega), dg_len, show n - n = 0 by omega] at this
        rw [show s + ((n + 1 : Nat) : Int) - 1 = s + n by omega]; exact this
      simp (config := {contextual := true, maxSteps := 1000000}) (disch := omega) only [r42_0, r42_1, r42_2, r42_3, r42_3_1, r42_6, r42_7, r42_8, r42_12, r42_13, r42_16, r42_18, r42_21, r42_22, r42_25, r42_26, r42_26_1, r42_29, r42_31, r42_31_1, r42_32, r42_33, r42_34, r42_36, r42_37, r42_37_1, r42_40, r42_42, r42_44, r42_47, r42_48, r42_48_1, r42_49, r42_51, r42_54, r42_55, r42_56, r42_59, r42_62, hc, hc2, hz, hlast, xAf_none, xAf_some, xu_app, Nat.reduceAdd, Nat.reduceSub, Nat.reduceEqDiff, Nat.reduceMul, reduceIte, and_self, and_true, true_and, and_false, false_and, true_implies, false_implies, implies_true, not_true_eq_false, not_false_eq_true, Int.reduceToNat, Int.reducePow, Int.reduceNeg, Int.reduceLT, Int.reduceLE, Int.reduceAdd, Int.reduceSub, Int.reduceMul, Int.reduceDiv, Int.reduceMod, Int.reduceEq, xA_1, xA_15, xA_255, xA_511, xA_65535, xA_32768]
      rw [show s + ((n + 1 : Nat) : Int) - 1 + -1 = s + n - 1 by omega]
      have hdiv : (X + c) / 256 = X / 256 + (X % 256 + c) / 256 := by omega
      have hmod : (X + c) % 256 = (X % 256 + c) % 256 := by omega
      refine ih _ (X / 256) _ _ (by omega) (fun j hj => ?_) (by omega) (by omega) (by omega) ?_ (fun j => ?_) fun a' k1 k2 k3 k4 => ?_
      · rw [xw_app, if_neg (by omega)]
        have := ha j (by omega)
        rw [show (dg X (n + 1)) = dg (X / 256) n ++ [X % 256] from rfl, getD_app_l (by rw [dg_len]; exact hj)] at this
        exact this
      · rw [← hdiv]
        rw [Int.pow_succ] at hX
        exact Int.ediv_lt_of_lt_mul (by omega) hX
      · rw [xw_app]; split
        · omega
        · exact hby j
      · refine hk a' (fun j hj => ?_) (fun j hj => ?_) k3 (fun i hi => (k4 i hi).trans (xw_ne _ hi))
        · rw [show (dg (X + c) (n + 1)) = dg ((X + c) / 256) n ++ [(X + c) % 256] from rfl]
          by_cases hj' : j < n
          · rw [getD_app_l (by rw [dg_len]; exact hj'), hdiv]; exact k1 j hj'
          · have hjn : j = n := by omega
            subst hjn
            rw [getD_app_r (by rw [dg_len]; omega), dg_len, show j - j = 0 by omega, k2 _ (by omega), xw_app, if_pos ⟨rfl, by omega⟩]
            exact hmod.symm
        · rw [k2 j (by omega), xw_app, if_neg (by omega)]
    · have hc0 : c = 0 := by omega
      subst hc0
      simp (config := {contextual := true, maxSteps := 1000000}) (disch := omega) only [r42_0, r42_1, r42_2, r42_3, r42_3_1, r42_6, r42_7, r42_8, r42_12, r42_13, r42_16, r42_18, r42_21, r42_22, r42_25, r42_26, r42_26_1, r42_29, r42_31, r42_31_1, r42_32, r42_33, r42_34, r42_36, r42_37, r42_37_1, r42_40, r42_42, r42_44, r42_47, r42_48, r42_48_1, r42_49, r42_51, r42_54, r42_55, r42_56, r42_59, r42_62, hc, hc2, xAf_none, xAf_some, xu_app, Nat.reduceAdd, Nat.reduceSub, Nat.reduceEqDiff, Nat.reduceMul, reduceIte, and_self, and_true, true_and, and_false, false_and, true_implies, false_implies, implies_true, not_true_eq_false, not_false_eq_true, Int.reduceToNat, Int.reducePow, Int.reduceNeg, Int.reduceLT, Int.reduceLE, Int.reduceAdd, Int.reduceSub, Int.reduceMul, Int.reduceDiv, Int.reduceMod, Int.reduceEq, xA_1, xA_15, xA_255, xA_511, xA_65535, xA_32768]
      rw [Int.add_zero] at hk
      exact hk a ha (fun _ _ => rfl) hby (fun _ _ => rfl)
theorem l_raise_w (s0 : 0 ≤ s) (n : Nat) : ∀ (a : Nat → Int → Int) (c : Int) (w : Value), s + n ≤ 1200 → 0 ≤ c → c ≤ 65535 → (∀ j, 0 ≤ a 11 j ∧ a 11 j ≤ 255) →
    (∀ a', (∀ j, 0 ≤ a' 11 j ∧ a' 11 j ≤ 255) → (∀ i, i ≠ 11 → a' i = a i) → Q (hh f a' g, .returned none)) →
    xT d 42 10 [.ref 10, .int (xI s), .int (xI y), .int (xI c), .int (xI (s + n - 1)), w] [] (hh f a g) Q := by
  induction n with
  | zero =>
    intro a c w hs c0 c1 hby hk
    rw [r42_10]
    have hc : s + ((0 : Nat) : Int) - 1 < s := by omega
    simp (config := {contextual := true, maxSteps := 1000000}) (disch := omega) only [r42_0, r42_1, r42_2, r42_3, r42_3_1, r42_6, r42_7, r42_8, r42_12, r42_13, r42_16, r42_18, r42_21, r42_22, r42_25, r42_26, r42_26_1, r42_29, r42_31, r42_31_1, r42_32, r42_33, r42_34, r42_36, r42_37, r42_37_1, r42_40, r42_42, r42_44, r42_47, r42_48, r42_48_1, r42_49, r42_51, r42_54, r42_55, r42_56, r42_59, r42_62, hc, xAf_none, xAf_some, xu_app, Nat.reduceAdd, Nat.reduceSub, Nat.reduceEqDiff, Nat.reduceMul, reduceIte, and_self, and_true, true_and, and_false, false_and, true_implies, false_implies, implies_true, not_true_eq_false, not_false_eq_true, Int.reduceToNat, Int.reducePow, Int.reduceNeg, Int.reduceLT, Int.reduceLE, Int.reduceAdd, Int.reduceSub, Int.reduceMul, Int.reduceDiv, Int.reduceMod, Int.reduceEq, xA_1, xA_15, xA_255, xA_511, xA_65535, xA_32768]
    exact hk a hby (fun _ _ => rfl)
  | succ n ih =>
    intro a c w hs c0 c1 hby hk
    rw [r42_10]
    have hc : ¬ s + ((n + 1 : Nat) : Int) - 1 < s := by omega
    have hc2 : ¬ s + ((n + 1 : Nat) : Int) - 1 < 0 := by omega
    have hb := hby (s + ((n + 1 : Nat) : Int) - 1)
    by_cases hz : 0 < c
    · simp (config := {contextual := true, maxSteps := 1000000}) (disch := omega) only [r42_0, r42_1, r42_2, r42_3, r42_3_1, r42_6, r42_7, r42_8, r42_12, r42_13, r42_16, r42_18, r42_21, r42_22, r42_25, r42_26, r42_26_1, r42_29, r42_31, r42_31_1, r42_32, r42_33, r42_34, r42_36, r42_37, r42_37_1, r42_40, r42_42, r42_44, r42_47, r42_48, r42_48_1, r42_49, r42_51, r42_54, r42_55, r42_56, r42_59, r42_62, hc, hc2, hz, xAf_none, xAf_some, xu_app, Nat.reduceAdd, Nat.reduceSub, Nat.reduceEqDiff, Nat.reduceMul, reduceIte, and_self, and_true, true_and, and_false, false_and, true_implies, false_implies, implies_true, not_true_eq_false, not_false_eq_true, Int.reduceToNat, Int.reducePow, Int.reduceNeg, Int.reduceLT, Int.reduceLE, Int.reduceAdd, Int.reduceSub, Int.reduceMul, Int.reduceDiv, Int.reduceMod, Int.reduceEq, xA_1, xA_15, xA_255, xA_511, xA_65535, xA_32768]
      rw [show s + ((n + 1 : Nat) : Int) - 1 + -1 = s + n - 1 by omega]
      refine ih _ _ _ (by omega) (by omega) (by omega) (fun j => ?_) fun a' k3 k4 => ?_
      · rw [xw_app]; split
        · omega
        · exact hby j
      · exact hk a' k3 (fun i hi => (k4 i hi).trans (xw_ne _ hi))
    · have hc0 : c = 0 := by omega
      subst hc0
      simp (config := {contextual := true, maxSteps := 1000000}) (disch := omega) only [r42_0, r42_1, r42_2, r42_3, r42_3_1, r42_6, r42_7, r42_8, r42_12, r42_13, r42_16, r42_18, r42_21, r42_22, r42_25, r42_26, r42_26_1, r42_29, r42_31, r42_31_1, r42_32, r42_33, r42_34, r42_36, r42_37, r42_37_1, r42_40, r42_42, r42_44, r42_47, r42_48, r42_48_1, r42_49, r42_51, r42_54, r42_55, r42_56, r42_59, r42_62, hc, hc2, xAf_none, xAf_some, xu_app, Nat.reduceAdd, Nat.reduceSub, Nat.reduceEqDiff, Nat.reduceMul, reduceIte, and_self, and_true, true_and, and_false, false_and, true_implies, false_implies, implies_true, not_true_eq_false, not_false_eq_true, Int.reduceToNat, Int.reducePow, Int.reduceNeg, Int.reduceLT, Int.reduceLE, Int.reduceAdd, Int.reduceSub, Int.reduceMul, Int.reduceDiv, Int.reduceMod, Int.reduceEq, xA_1, xA_15, xA_255, xA_511, xA_65535, xA_32768]
      exact hk a hby (fun _ _ => rfl)
variable {a : Nat → Int → Int}
theorem p_raise {A : List Int} {X : Int} {n : Nat} (h : xB f a (A ++ dg X n)) (hs : s = min (A.length : Int) 1200) (X0 : 0 ≤ X) (y0 : 0 ≤ y) (y1 : y ≤ 65535) (hX : X + y < 256 ^ n) (hk : ∀ a', xB f a' (A ++ dg (X + y) n) → xF10 f a f a' → Q (hh f a' g, .returned none)) : xTC d 42 [.ref 10, .int (xI s), .int (xI y)] (hh f a g) Q := by
  have hl := h.len
  have hlen : (A ++ dg X n).length = A.length + n := by rw [List.length_append, dg_len]
  have hlen2 : (A ++ dg (X + y) n).length = A.length + n := by rw [List.length_append, dg_len]
  obtain ⟨h0, h1, h2, h3⟩ := h
  rw [hlen] at h0 h1 h2
  rw [e42]
  simp (config := {contextual := true, maxSteps := 1000000}) (disch := omega) only [r42_0, r42_1, r42_2, r42_3, r42_3_1, r42_6, r42_7, r42_8, r42_12, r42_13, r42_16, r42_18, r42_21, r42_22, r42_25, r42_26, r42_26_1, r42_29, r42_31, r42_31_1, r42_32, r42_33, r42_34, r42_36, r42_37, r42_37_1, r42_40, r42_42, r42_44, r42_47, r42_48, r42_48_1, r42_49, r42_51, r42_54, r42_55, r42_56, r42_59, r42_62, xAf_none, xAf_some, xu_app, Nat.reduceAdd, Nat.reduceSub, Nat.reduceEqDiff, Nat.reduceMul, reduceIte, and_self, and_true, true_and, and_false, false_and, true_implies, false_implies, implies_true, not_true_eq_false, not_false_eq_true, Int.reduceToNat, Int.reducePow, Int.reduceNeg, Int.reduceLT, Int.reduceLE, Int.reduceAdd, Int.reduceSub, Int.reduceMul, Int.reduceDiv, Int.reduceMod, Int.reduceEq, xA_1, xA_15, xA_255, xA_511, xA_65535, xA_32768]
  by_cases hn : A.length + n ≤ 1200
  · have hsA : s = A.length := by omega
    rw [show f 10 0 - 1 = s + n - 1 by omega]
    refine l_raise (by omega) n a X y .null (by omega) (fun j hj => ?_) X0 y0 y1 hX h3 fun a' k1 k2 k3 k4 => ?_
    · have := (h1 hn).2 (A.length + j) (by omega)
      rw [getD_app_r (by omega), show A.length + j - A.length = j by omega] at this
      rw [hsA, ← this]; congr 1
    · refine hk a' ⟨by rw [hlen2]; exact h0, fun _ => ⟨(h1 hn).1, fun j hj => ?_⟩, fun hx => by rw [hlen2] at hx; omega, k3⟩ ⟨fun _ _ => rfl, fun _ _ => rfl, k4⟩
      rw [hlen2] at hj
      by_cases hjA : j < A.length
      · rw [k2 _ (by omega), getD_app_l hjA, (h1 hn).2 j (by omega), getD_app_l hjA]
      · have := k1 (j - A.length) (by omega)
        rw [getD_app_r (by omega), ← this, hsA]; congr 1; omega
  · have e : f 10 0 - 1 = s + ((1200 - s).toNat : Nat) - 1 := by omega
    rw [e]
    refine l_raise_w (by omega) _ a y .null (by omega) y0 y1 h3 fun a' k3 k4 => ?_
    refine hk a' ⟨by rw [hlen2]; exact h0, fun hx => by rw [hlen2] at hx; omega, fun _ => h2 (by omega), k3⟩ ⟨fun _ _ => rfl, fun _ _ => rfl, k4⟩
end S41
