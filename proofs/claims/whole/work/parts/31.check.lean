/-! THE CHECK, and small methods -/
theorem xT_iff {d mi pc : Nat} {ls st : List Value} {h : xm_H} {Q : xm_H × Outcome → Prop} {r : xm_H × Outcome} (hT : xT d mi pc ls st h (fun q => q = r)) : xT d mi pc ls st h Q ↔ Q r := by
  obtain ⟨n, r', h1, rfl⟩ := hT
  constructor
  · rintro ⟨m, r'', h2, h3⟩
    have h4 := xm_mono h1 (Nat.le_max_left n m)
    have h5 := xm_mono h2 (Nat.le_max_right n m)
    rw [h4] at h5
    cases h5; exact h3
  · intro hq; exact ⟨n, r', h1, hq⟩
theorem xTC_iff {d mj : Nat} {vs : List Value} {h : xm_H} {Q : xm_H × Outcome → Prop} {r : xm_H × Outcome} (hT : xTC d mj vs h (fun q => q = r)) : xTC d mj vs h Q ↔ Q r := xT_iff hT
def cStep (r : Int) : Int := if r < 32768 then r * 2 else xX (r * 2) 4129 % 65536
def cIt : Nat → Int → Int
  | 0, r => r
  | n + 1, r => cIt n (cStep r)
def crcB (r b : Int) : Int := cIt 8 (xX r (b * 256))
def crc (D : Int → Int) (s r : Int) : Nat → Int
  | 0 => r
  | n + 1 => crc D (s + 1) (crcB r (D s)) n
theorem xX_lt {a b : Int} (a0 : 0 ≤ a) (a1 : a < 65536) (b0 : 0 ≤ b) (b1 : b < 65536) : 0 ≤ xX a b ∧ xX a b < 65536 := by
  have h : ((a % 4294967296).toNat ^^^ (b % 4294967296).toNat) < 2 ^ 16 := Nat.xor_lt_two_pow (by omega) (by omega)
  unfold xX; omega
theorem cStep_lt {r : Int} (r0 : 0 ≤ r) (r1 : r < 65536) : 0 ≤ cStep r ∧ cStep r < 65536 := by
  unfold cStep; split <;> omega
theorem cIt_lt (n : Nat) : ∀ {r : Int}, 0 ≤ r → r < 65536 → 0 ≤ cIt n r ∧ cIt n r < 65536 := by
  induction n with
  | zero => intro r r0 r1; exact ⟨r0, r1⟩
  | succ n ih => intro r r0 r1; have h := cStep_lt r0 r1; exact ih h.1 h.2
theorem crcB_lt {r b : Int} (r0 : 0 ≤ r) (r1 : r < 65536) (b0 : 0 ≤ b) (b1 : b ≤ 255) : 0 ≤ crcB r b ∧ crcB r b < 65536 := by
  have h := xX_lt (b := b * 256) r0 r1 (by omega) (by omega)
  exact cIt_lt 8 h.1 h.2
theorem crc_lt (n : Nat) : ∀ {D : Int → Int} {s r : Int}, (∀ j, s ≤ j → j < s + n → 0 ≤ D j ∧ D j ≤ 255) → 0 ≤ r → r < 65536 → 0 ≤ crc D s r n ∧ crc D s r n < 65536 := by
  induction n with
  | zero => intro D s r _ r0 r1; exact ⟨r0, r1⟩
  | succ n ih =>
    intro D s r hD r0 r1
    have h := crcB_lt r0 r1 (hD s (by omega) (by omega)).1 (hD s (by omega) (by omega)).2
    exact ih (fun j j0 j1 => hD j (by omega) (by omega)) h.1 h.2
theorem crc_congr (n : Nat) : ∀ {D E : Int → Int} {s t r : Int}, (∀ j : Int, 0 ≤ j → j < n → D (s + j) = E (t + j)) → crc D s r n = crc E t r n := by
  induction n with
  | zero => intros; rfl
  | succ n ih =>
    intro D E s t r h
    have h0 := h 0 (by omega) (by omega)
    rw [Int.add_zero, Int.add_zero] at h0
    show crc D (s + 1) (crcB r (D s)) n = crc E (t + 1) (crcB r (E t)) n
    rw [h0]
    refine ih fun j j0 j1 => ?_
    have := h (1 + j) (by omega) (by omega)
    rw [← Int.add_assoc, ← Int.add_assoc] at this
    exact this
section S31
variable {d : Nat} {Q : xm_H × Outcome → Prop} {f : Nat → Nat → Int} {a : Nat → Int → Int} {g : xG} {k v x y z w p : Int}
theorem l_chk_in8 (n : Nat) : ∀ (r i : Int), i = 8 - n → 0 ≤ i → 0 ≤ r → r < 65536 → xT d 44 66 [.ref 8, .int (xI x), .int (xI y), .int (xI (cIt n r)), .int (xI z), .int (xI 8)] [] (hh f a g) Q → xT d 44 30 [.ref 8, .int (xI x), .int (xI y), .int (xI r), .int (xI z), .int (xI i)] [] (hh f a g) Q := by
  induction n with
  | zero =>
    intro r i hi i0 r0 r1 hk
    have hi8 : i = 8 := by omega
    subst hi8
    rw [r44_30]
    simp (config := {contextual := true, maxSteps := 1000000}) (disch := omega) only [r44_0, r44_2, r44_3, r44_4, r44_8, r44_9, r44_10, r44_11, r44_14, r44_15, r44_16, r44_18, r44_18_1, r44_21, r44_24, r44_25, r44_26, r44_27, r44_28, r44_32, r44_34, r44_37, r44_38, r44_40, r44_43, r44_44, r44_45, r44_46, r44_49, r44_50, r44_52, r44_53, r44_56, r44_57, r44_58, r44_59, r44_60, r44_63, r44_69, r44_72, r44_73, xAf_none, xAf_some, xu_app, Nat.reduceAdd, Nat.reduceSub, Nat.reduceEqDiff, Nat.reduceMul, reduceIte, and_self, and_true, true_and, and_false, false_and, true_implies, false_implies, implies_true, not_true_eq_false, not_false_eq_true, Int.reduceToNat, Int.reducePow, Int.reduceNeg, Int.reduceLT, Int.reduceLE, Int.reduceAdd, Int.reduceSub, Int.reduceMul, Int.reduceDiv, Int.reduceMod, Int.reduceEq, xA_1, xA_15, xA_255, xA_511, xA_65535, xA_32768]
    exact hk
  | succ n ih =>
    intro r i hi i0 r0 r1 hk
    rw [r44_30]
    have hc : i < 8 := by omega
    simp (config := {contextual := true, maxSteps := 1000000}) (disch := omega) only [r44_0, r44_2, r44_3, r44_4, r44_8, r44_9, r44_10, r44_11, r44_14, r44_15, r44_16, r44_18, r44_18_1, r44_21, r44_24, r44_25, r44_26, r44_27, r44_28, r44_32, r44_34, r44_37, r44_38, r44_40, r44_43, r44_44, r44_45, r44_46, r44_49, r44_50, r44_52, r44_53, r44_56, r44_57, r44_58, r44_59, r44_60, r44_63, r44_69, r44_72, r44_73, hc, xAf_none, xAf_some, xu_app, Nat.reduceAdd, Nat.reduceSub, Nat.reduceEqDiff, Nat.reduceMul, reduceIte, and_self, and_true, true_and, and_false, false_and, true_implies, false_implies, implies_true, not_true_eq_false, not_false_eq_true, Int.reduceToNat, Int.reducePow, Int.reduceNeg, Int.reduceLT, Int.reduceLE, Int.reduceAdd, Int.reduceSub, Int.reduceMul, Int.reduceDiv, Int.reduceMod, Int.reduceEq, xA_1, xA_15, xA_255, xA_511, xA_65535, xA_32768]
    have hs := cStep_lt r0 r1
    have h1 := ih (cStep r) (i + 1) (by omega) (by omega) hs.1 hs.2 hk
    refine ⟨fun hr => ?_, fun hr => ?_⟩
    · rw [show cStep r = r * 2 from if_pos hr] at h1; exact h1
    · rw [show cStep r = xX (r * 2) 4129 % 65536 from if_neg hr] at h1; exact h1
theorem l_chk_out8 (l0 : 0 ≤ f 8 0) (l1 : f 8 0 ≤ 1200) (hby : ∀ j, 0 ≤ a 9 j ∧ a 9 j ≤ 255) (x0 : 0 ≤ x) (hd : 1 ≤ d) (n : Nat) : ∀ (r i : Int) (w : Value), (w = .null ∨ ∃ w', w = .int w') → i = x + y - n → x ≤ i → x + y ≤ f 8 0 → 0 ≤ r → r < 65536 → Q (hh f a g, .returned (some (.int (xI (crc (a 9) i r n))))) → xT d 44 6 [.ref 8, .int (xI x), .int (xI y), .int (xI r), .int (xI i), w] [] (hh f a g) Q := by
  induction n with
  | zero =>
    intro r i w hw hi h1 h2 r0 r1 hk
    rw [r44_6]
    have hc : ¬ i < x + y := by omega
    simp (config := {contextual := true, maxSteps := 1000000}) (disch := omega) only [r44_0, r44_2, r44_3, r44_4, r44_8, r44_9, r44_10, r44_11, r44_14, r44_15, r44_16, r44_18, r44_18_1, r44_21, r44_24, r44_25, r44_26, r44_27, r44_28, r44_32, r44_34, r44_37, r44_38, r44_40, r44_43, r44_44, r44_45, r44_46, r44_49, r44_50, r44_52, r44_53, r44_56, r44_57, r44_58, r44_59, r44_60, r44_63, r44_66, r44_69, r44_72, r44_73, hc, xAf_none, xAf_some, xu_app, Nat.reduceAdd, Nat.reduceSub, Nat.reduceEqDiff, Nat.reduceMul, reduceIte, and_self, and_true, true_and, and_false, false_and, true_implies, false_implies, implies_true, not_true_eq_false, not_false_eq_true, Int.reduceToNat, Int.reducePow, Int.reduceNeg, Int.reduceLT, Int.reduceLE, Int.reduceAdd, Int.reduceSub, Int.reduceMul, Int.reduceDiv, Int.reduceMod, Int.reduceEq, xA_1, xA_15, xA_255, xA_511, xA_65535, xA_32768]
    exact hk
  | succ n ih =>
    intro r i w hw hi h1 h2 r0 r1 hk
    rw [r44_6]
    have hc : i < x + y := by omega
    have hg : 0 ≤ i ∧ i < f 8 0 := by omega
    have hb := hby i
    have hx := xX_lt (b := a 9 i * 256) r0 r1 (by omega) (by omega)
    have hcc := crcB_lt r0 r1 hb.1 hb.2
    have h3 := ih _ (i + 1) (.int (xI 8)) (.inr ⟨_, rfl⟩) (by omega) (by omega) (by omega) hcc.1 hcc.2 hk
    have key : xT d 44 30 [.ref 8, .int (xI x), .int (xI y), .int (xI (xX r (a 9 i * 256))), .int (xI i), .int (xI 0)] [] (hh f a g) Q := by
      refine l_chk_in8 8 _ _ (by omega) (by omega) hx.1 hx.2 ?_
      simp (config := {contextual := true, maxSteps := 1000000}) (disch := omega) only [r44_0, r44_2, r44_3, r44_4, r44_8, r44_9, r44_10, r44_11, r44_14, r44_15, r44_16, r44_18, r44_18_1, r44_21, r44_24, r44_25, r44_26, r44_27, r44_28, r44_32, r44_34, r44_37, r44_38, r44_40, r44_43, r44_44, r44_45, r44_46, r44_49, r44_50, r44_52, r44_53, r44_56, r44_57, r44_58, r44_59, r44_60, r44_63, r44_66, r44_69, r44_72, r44_73, xAf_none, xAf_some, xu_app, Nat.reduceAdd, Nat.reduceSub, Nat.reduceEqDiff, Nat.reduceMul, reduceIte, and_self, and_true, true_and, and_false, false_and, true_implies, false_implies, implies_true, not_true_eq_false, not_false_eq_true, Int.reduceToNat, Int.reducePow, Int.reduceNeg, Int.reduceLT, Int.reduceLE, Int.reduceAdd, Int.reduceSub, Int.reduceMul, Int.reduceDiv, Int.reduceMod, Int.reduceEq, xA_1, xA_15, xA_255, xA_511, xA_65535, xA_32768]
      exact h3
    rcases hw with rfl | ⟨w', rfl⟩
    · simp (config := {contextual := true, maxSteps := 1000000}) (disch := omega) only [r44_0, r44_2, r44_3, r44_4, r44_8, r44_9, r44_10, r44_11, r44_14, r44_15, r44_16, r44_18, r44_18_1, r44_21, r44_24, r44_25, r44_26, r44_27, r44_28, r44_32, r44_34, r44_37, r44_38, r44_40, r44_43, r44_44, r44_45, r44_46, r44_49, r44_50, r44_52, r44_53, r44_56, r44_57, r44_58, r44_59, r44_60, r44_63, r44_66, r44_69, r44_72, r44_73, hc, s_at8, hg, xAf_none, xAf_some, xu_app, Nat.reduceAdd, Nat.reduceSub, Nat.reduceEqDiff, Nat.reduceMul, reduceIte, and_self, and_true, true_and, and_false, false_and, true_implies, false_implies, implies_true, not_true_eq_false, not_false_eq_true, Int.reduceToNat, Int.reducePow, Int.reduceNeg, Int.reduceLT, Int.reduceLE, Int.reduceAdd, Int.reduceSub, Int.reduceMul, Int.reduceDiv, Int.reduceMod, Int.reduceEq, xA_1, xA_15, xA_255, xA_511, xA_65535, xA_32768]
      exact key
    · simp (config := {contextual := true, maxSteps := 1000000}) (disch := omega) only [r44_0, r44_2, r44_3, r44_4, r44_8, r44_9, r44_10, r44_11, r44_14, r44_15, r44_16, r44_18, r44_18_1, r44_21, r44_24, r44_25, r44_26, r44_27, r44_28, r44_32, r44_34, r44_37, r44_38, r44_40, r44_43, r44_44, r44_45, r44_46, r44_49, r44_50, r44_52, r44_53, r44_56, r44_57, r44_58, r44_59, r44_60, r44_63, r44_66, r44_69, r44_72, r44_73, hc, s_at8, hg, xAf_none, xAf_some, xu_app, Nat.reduceAdd, Nat.reduceSub, Nat.reduceEqDiff, Nat.reduceMul, reduceIte, and_self, and_true, true_and, and_false, false_and, true_implies, false_implies, implies_true, not_true_eq_false, not_false_eq_true, Int.reduceToNat, Int.reducePow, Int.reduceNeg, Int.reduceLT, Int.reduceLE, Int.reduceAdd, Int.reduceSub, Int.reduceMul, Int.reduceDiv, Int.reduceMod, Int.reduceEq, xA_1, xA_15, xA_255, xA_511, xA_65535, xA_32768]
      exact key
theorem s_chk8 (l0 : 0 ≤ f 8 0) (l1 : f 8 0 ≤ 1200) (hby : ∀ j, 0 ≤ a 9 j ∧ a 9 j ≤ 255) (x0 : 0 ≤ x) (y0 : 0 ≤ y) (y1 : x + y ≤ f 8 0) (hd : 1 ≤ d) : xTC d 44 [.ref 8, .int (xI x), .int (xI y)] (hh f a g) Q ↔ Q (hh f a g, .returned (some (.int (xI (crc (a 9) x 65535 y.toNat))))) := by
  refine xTC_iff ?_
  rw [e44]
  simp (config := {contextual := true, maxSteps := 1000000}) (disch := omega) only [r44_0, r44_2, r44_3, r44_4, r44_8, r44_9, r44_10, r44_11, r44_14, r44_15, r44_16, r44_18, r44_18_1, r44_21, r44_24, r44_25, r44_26, r44_27, r44_28, r44_32, r44_34, r44_37, r44_38, r44_40, r44_43, r44_44, r44_45, r44_46, r44_49, r44_50, r44_52, r44_53, r44_56, r44_57, r44_58, r44_59, r44_60, r44_63, r44_66, r44_69, r44_72, r44_73, xAf_none, xAf_some, xu_app, Nat.reduceAdd, Nat.reduceSub, Nat.reduceEqDiff, Nat.reduceMul, reduceIte, and_self, and_true, true_and, and_false, false_and, true_implies, false_implies, implies_true, not_true_eq_false, not_false_eq_true, Int.reduceToNat, Int.reducePow, Int.reduceNeg, Int.reduceLT, Int.reduceLE, Int.reduceAdd, Int.reduceSub, Int.reduceMul, Int.reduceDiv, Int.reduceMod, Int.reduceEq, xA_1, xA_15, xA_255, xA_511, xA_65535, xA_32768]
  exact l_chk_out8 l0 l1 hby x0 hd y.toNat _ _ _ (.inl rfl) (by omega) (by omega) y1 (by omega) (by omega) rfl
theorem l_chk_in10 (n : Nat) : ∀ (r i : Int), i = 8 - n → 0 ≤ i → 0 ≤ r → r < 65536 → xT d 44 66 [.ref 10, .int (xI x), .int (xI y), .int (xI (cIt n r)), .int (xI z), .int (xI 8)] [] (hh f a g) Q → xT d 44 30 [.ref 10, .int (xI x), .int (xI y), .int (xI r), .int (xI z), .int (xI i)] [] (hh f a g) Q := by
  induction n with
  | zero =>
    intro r i hi i0 r0 r1 hk
    have hi8 : i = 8 := by omega
    subst hi8
    rw [r44_30]
    simp (config := {contextual := true, maxSteps := 1000000}) (disch := omega) only [r44_0, r44_2, r44_3, r44_4, r44_8, r44_9, r44_10, r44_11, r44_14, r44_15, r44_16, r44_18, r44_18_1, r44_21, r44_24, r44_25, r44_26, r44_27, r44_28, r44_32, r44_34, r44_37, r44_38, r44_40, r44_43, r44_44, r44_45, r44_46, r44_49, r44_50, r44_52, r44_53, r44_56, r44_57, r44_58, r44_59, r44_60, r44_63, r44_69, r44_72, r44_73, xAf_none, xAf_some, xu_app, Nat.reduceAdd, Nat.reduceSub, Nat.reduceEqDiff, Nat.reduceMul, reduceIte, and_self, and_true, true_and, and_false, false_and, true_implies, false_implies, implies_true, not_true_eq_false, not_false_eq_true, Int.reduceToNat, Int.reducePow, Int.reduceNeg, Int.reduceLT, Int.reduceLE, Int.reduceAdd, Int.reduceSub, Int.reduceMul, Int.reduceDiv, Int.reduceMod, Int.reduceEq, xA_1, xA_15, xA_255, xA_511, xA_65535, xA_32768]
    exact hk
  | succ n ih =>
    intro r i hi i0 r0 r1 hk
    rw [r44_30]
    have hc : i < 8 := by omega
    simp (config := {contextual := true, maxSteps := 1000000}) (disch := omega) only [r44_0, r44_2, r44_3, r44_4, r44_8, r44_9, r44_10, r44_11, r44_14, r44_15, r44_16, r44_18, r44_18_1, r44_21, r44_24, r44_25, r44_26, r44_27, r44_28, r44_32, r44_34, r44_37, r44_38, r44_40, r44_43, r44_44, r44_45, r44_46, r44_49, r44_50, r44_52, r44_53, r44_56, r44_57, r44_58, r44_59, r44_60, r44_63, r44_69, r44_72, r44_73, hc, xAf_none, xAf_some, xu_app, Nat.reduceAdd, Nat.reduceSub, Nat.reduceEqDiff, Nat.reduceMul, reduceIte, and_self, and_true, true_and, and_false, false_and, true_implies, false_implies, implies_true, not_true_eq_false, not_false_eq_true, Int.reduceToNat, Int.reducePow, Int.reduceNeg, Int.reduceLT, Int.reduceLE, Int.reduceAdd, Int.reduceSub, Int.reduceMul, Int.reduceDiv, Int.reduceMod, Int.reduceEq, xA_1, xA_15, xA_255, xA_511, xA_65535, xA_32768]
    have hs := cStep_lt r0 r1
    have h1 := ih (cStep r) (i + 1) (by omega) (by omega) hs.1 hs.2 hk
    refine ⟨fun hr => ?_, fun hr => ?_⟩
    · rw [show cStep r = r * 2 from if_pos hr] at h1; exact h1
    · rw [show cStep r = xX (r * 2) 4129 % 65536 from if_neg hr] at h1; exact h1
theorem l_chk_out10 (l0 : 0 ≤ f 10 0) (l1 : f 10 0 ≤ 1200) (hby : ∀ j, 0 ≤ a 11 j ∧ a 11 j ≤ 255) (x0 : 0 ≤ x) (hd : 1 ≤ d) (n : Nat) : ∀ (r i : Int) (w : Value), (w = .null ∨ ∃ w', w = .int w') → i = x + y - n → x ≤ i → x + y ≤ f 10 0 → 0 ≤ r → r < 65536 → Q (hh f a g, .returned (some (.int (xI (crc (a 11) i r n))))) → xT d 44 6 [.ref 10, .int (xI x), .int (xI y), .int (xI r), .int (xI i), w] [] (hh f a g) Q := by
  induction n with
  | zero =>
    intro r i w hw hi h1 h2 r0 r1 hk
    rw [r44_6]
    have hc : ¬ i < x + y := by omega
    simp (config := {contextual := true, maxSteps := 1000000}) (disch := omega) only [r44_0, r44_2, r44_3, r44_4, r44_8, r44_9, r44_10, r44_11, r44_14, r44_15, r44_16, r44_18, r44_18_1, r44_21, r44_24, r44_25, r44_26, r44_27, r44_28, r44_32, r44_34, r44_37, r44_38, r44_40, r44_43, r44_44, r44_45, r44_46, r44_49, r44_50, r44_52, r44_53, r44_56, r44_57, r44_58, r44_59, r44_60, r44_63, r44_66, r44_69, r44_72, r44_73, hc, xAf_none, xAf_some, xu_app, Nat.reduceAdd, Nat.reduceSub, Nat.reduceEqDiff, Nat.reduceMul, reduceIte, and_self, and_true, true_and, and_false, false_and, true_implies, false_implies, implies_true, not_true_eq_false, not_false_eq_true, Int.reduceToNat, Int.reducePow, Int.reduceNeg, Int.reduceLT, Int.reduceLE, Int.reduceAdd, Int.reduceSub, Int.reduceMul, Int.reduceDiv, Int.reduceMod, Int.reduceEq, xA_1, xA_15, xA_255, xA_511, xA_65535, xA_32768]
    exact hk
  | succ n ih =>
    intro r i w hw hi h1 h2 r0 r1 hk
    rw [r44_6]
    have hc : i < x + y := by omega
    have hg : 0 ≤ i ∧ i < f 10 0 := by omega
    have hb := hby i
    have hx := xX_lt (b := a 11 i * 256) r0 r1 (by omega) (by omega)
    have hcc := crcB_lt r0 r1 hb.1 hb.2
    have h3 := ih _ (i + 1) (.int (xI 8)) (.inr ⟨_, rfl⟩) (by omega) (by omega) (by omega) hcc.1 hcc.2 hk
    have key : xT d 44 30 [.ref 10, .int (xI x), .int (xI y), .int (xI (xX r (a 11 i * 256))), .int (xI i), .int (xI 0)] [] (hh f a g) Q := by
      refine l_chk_in10 8 _ _ (by omega) (by omega) hx.1 hx.2 ?_
      simp (config := {contextual := true, maxSteps := 1000000}) (disch := omega) only [r44_0, r44_2, r44_3, r44_4, r44_8, r44_9, r44_10, r44_11, r44_14, r44_15, r44_16, r44_18, r44_18_1, r44_21, r44_24, r44_25, r44_26, r44_27, r44_28, r44_32, r44_34, r44_37, r44_38, r44_40, r44_43, r44_44, r44_45, r44_46, r44_49, r44_50, r44_52, r44_53, r44_56, r44_57, r44_58, r44_59, r44_60, r44_63, r44_66, r44_69, r44_72, r44_73, xAf_none, xAf_some, xu_app, Nat.reduceAdd, Nat.reduceSub, Nat.reduceEqDiff, Nat.reduceMul, reduceIte, and_self, and_true, true_and, and_false, false_and, true_implies, false_implies, implies_true, not_true_eq_false, not_false_eq_true, Int.reduceToNat, Int.reducePow, Int.reduceNeg, Int.reduceLT, Int.reduceLE, Int.reduceAdd, Int.reduceSub, Int.reduceMul, Int.reduceDiv, Int.reduceMod, Int.reduceEq, xA_1, xA_15, xA_255, xA_511, xA_65535, xA_32768]
      exact h3
    rcases hw with rfl | ⟨w', rfl⟩
    · simp (config := {contextual := true, maxSteps := 1000000}) (disch := omega) only [r44_0, r44_2, r44_3, r44_4, r44_8, r44_9, r44_10, r44_11, r44_14, r44_15, r44_16, r44_18, r44_18_1, r44_21, r44_24, r44_25, r44_26, r44_27, r44_28, r44_32, r44_34, r44_37, r44_38, r44_40, r44_43, r44_44, r44_45, r44_46, r44_49, r44_50, r44_52, r44_53, r44_56, r44_57, r44_58, r44_59, r44_60, r44_63, r44_66, r44_69, r44_72, r44_73, hc, s_at10, hg, xAf_none, xAf_some, xu_app, Nat.reduceAdd, Nat.reduceSub, Nat.reduceEqDiff, Nat.reduceMul, reduceIte, and_self, and_true, true_and, and_false, false_and, true_implies, false_implies, implies_true, not_true_eq_false, not_false_eq_true, Int.reduceToNat, Int.reducePow, Int.reduceNeg, Int.reduceLT, Int.reduceLE, Int.reduceAdd, Int.reduceSub, Int.reduceMul, Int.reduceDiv, Int.reduceMod, Int.reduceEq, xA_1, xA_15, xA_255, xA_511, xA_65535, xA_32768]
      exact key
    · simp (config := {contextual := true, maxSteps := 1000000}) (disch := omega) only [r44_0, r44_2, r44_3, r44_4, r44_8, r44_9, r44_10, r44_11, r44_14, r44_15, r44_16, r44_18, r44_18_1, r44_21, r44_24, r44_25, r44_26, r44_27, r44_28, r44_32, r44_34, r44_37, r44_38, r44_40, r44_43, r44_44, r44_45, r44_46, r44_49, r44_50, r44_52, r44_53, r44_56, r44_57, r44_58, r44_59, r44_60, r44_63, r44_66, r44_69, r44_72, r44_73, hc, s_at10, hg, xAf_none, xAf_some, xu_app, Nat.reduceAdd, Nat.reduceSub, Nat.reduceEqDiff, Nat.reduceMul, reduceIte, and_self, and_true, true_and, and_false, false_and, true_implies, false_implies, implies_true, not_true_eq_false, not_false_eq_true, Int.reduceToNat, Int.reducePow, Int.reduceNeg, Int.reduceLT, Int.reduceLE, Int.reduceAdd, Int.reduceSub, Int.reduceMul, Int.reduceDiv, Int.reduceMod, Int.reduceEq, xA_1, xA_15, xA_255, xA_511, xA_65535, xA_32768]
      exact key
theorem s_chk10 (l0 : 0 ≤ f 10 0) (l1 : f 10 0 ≤ 1200) (hby : ∀ j, 0 ≤ a 11 j ∧ a 11 j ≤ 255) (x0 : 0 ≤ x) (y0 : 0 ≤ y) (y1 : x + y ≤ f 10 0) (hd : 1 ≤ d) : xTC d 44 [.ref 10, .int (xI x), .int (xI y)] (hh f a g) Q ↔ Q (hh f a g, .returned (some (.int (xI (crc (a 11) x 65535 y.toNat))))) := by
  refine xTC_iff ?_
  rw [e44]
  simp (config := {contextual := true, maxSteps := 1000000}) (disch := omega) only [r44_0, r44_2, r44_3, r44_4, r44_8, r44_9, r44_10, r44_11, r44_14, r44_15, r44_16, r44_18, r44_18_1, r44_21, r44_24, r44_25, r44_26, r44_27, r44_28, r44_32, r44_34, r44_37, r44_38, r44_40, r44_43, r44_44, r44_45, r44_46, r44_49, r44_50, r44_52, r44_53, r44_56, r44_57, r44_58, r44_59, r44_60, r44_63, r44_66, r44_69, r44_72, r44_73, xAf_none, xAf_some, xu_app, Nat.reduceAdd, Nat.reduceSub, Nat.reduceEqDiff, Nat.reduceMul, reduceIte, and_self, and_true, true_and, and_false, false_and, true_implies, false_implies, implies_true, not_true_eq_false, not_false_eq_true, Int.reduceToNat, Int.reducePow, Int.reduceNeg, Int.reduceLT, Int.reduceLE, Int.reduceAdd, Int.reduceSub, Int.reduceMul, Int.reduceDiv, Int.reduceMod, Int.reduceEq, xA_1, xA_15, xA_255, xA_511, xA_65535, xA_32768]
  exact l_chk_out10 l0 l1 hby x0 hd y.toNat _ _ _ (.inl rfl) (by omega) (by omega) y1 (by omega) (by omega) rfl
end S31
