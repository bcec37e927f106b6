/-! MODE 0: THE CLASS READS -/
def sB (F : Int → Int) (en j : Int) : Int := if j < en then F j else 0
/-- the bits from fr on; behind en there are zeros -/
def bt (F : Int → Int) (fr en : Int) (i : Nat) : Int := sB F en (fr + (i / 8 : Nat)) / 2 ^ (7 - i % 8) % 2
def zr (s : Nat → Int) : Nat → Nat → Nat
  | _, 0 => 0
  | p, n + 1 => if s p = 0 then zr s (p + 1) n + 1 else 0
def bv (s : Nat → Int) : Nat → Nat → Int → Int
  | _, 0, x => x
  | p, n + 1, x => bv s (p + 1) n (x * 2 + s p)
abbrev dS : Type := (Int → Int) × (Int → Int) × Nat
def bgot (s : Nat → Int) (τ : dS) (c : Int) : Int := if zr s τ.2.2 12 = 12 then bv s (τ.2.2 + 12) 9 0 else bv s (τ.2.2 + zr s τ.2.2 12 + 1) (low (τ.1 c) (τ.2.1 c)) (zr s τ.2.2 12)
def bpos (s : Nat → Int) (τ : dS) (c : Int) : Nat := if zr s τ.2.2 12 = 12 then τ.2.2 + 12 + 9 else τ.2.2 + zr s τ.2.2 12 + 1 + low (τ.1 c) (τ.2.1 c)
def unz (x : Int) : Int := if x % 2 = 0 then x / 2 else -(x / 2) - 1
def dL (τ : dS) (c e : Int) (q : Nat) : dS := ((bL (τ.1, τ.2.1, 0, 0, 0) c e).1, (bL (τ.1, τ.2.1, 0, 0, 0) c e).2.1, q)
def bdO (s : Nat → Int) (τ : dS) (c : Int) : Int := unz (bgot s τ c % 512)
def bdN (s : Nat → Int) (τ : dS) (c : Int) : dS := dL τ c (bdO s τ c) (bpos s τ c)
theorem sB_bd {F : Int → Int} (hF : ∀ j, 0 ≤ F j ∧ F j ≤ 255) (en j : Int) : 0 ≤ sB F en j ∧ sB F en j ≤ 255 := by
  unfold sB; split
  · exact hF j
  · omega
theorem bt_bd (F : Int → Int) (fr en : Int) (i : Nat) : bt F fr en i = 0 ∨ bt F fr en i = 1 := by unfold bt; omega
theorem zr_le (s : Nat → Int) (n : Nat) : ∀ p, zr s p n ≤ n := by
  induction n with
  | zero => intro p; exact Nat.le_refl _
  | succ n ih => intro p; unfold zr; split
                 · have := ih (p + 1); omega
                 · omega
theorem bv_bd {s : Nat → Int} (hs : ∀ i, s i = 0 ∨ s i = 1) (n : Nat) : ∀ p x, 0 ≤ x → 0 ≤ bv s p n x ∧ bv s p n x < (x + 1) * 2 ^ n := by
  induction n with
  | zero => intro p x hx; unfold bv; omega
  | succ n ih =>
    intro p x hx
    have h1 := hs p
    have h2 := ih (p + 1) (x * 2 + s p) (by omega)
    unfold bv
    refine ⟨h2.1, Int.lt_of_lt_of_le h2.2 ?_⟩
    rw [Int.pow_succ, ← Int.mul_assoc, Int.mul_right_comm]
    exact Int.mul_le_mul_of_nonneg_right (by omega) (by have := pow2_pos n; omega)
theorem bgot_bd {s : Nat → Int} (hs : ∀ i, s i = 0 ∨ s i = 1) (τ : dS) (c : Int) : 0 ≤ bgot s τ c ∧ bgot s τ c < 3072 := by
  unfold bgot; split
  · have := bv_bd hs 9 (τ.2.2 + 12) 0 (by omega); omega
  · have hz := zr_le s 12 τ.2.2
    have hl := low_le (τ.1 c) (τ.2.1 c)
    have h1 := bv_bd hs (low (τ.1 c) (τ.2.1 c)) (τ.2.2 + zr s τ.2.2 12 + 1) (zr s τ.2.2 12) (by omega)
    refine ⟨h1.1, Int.lt_of_lt_of_le h1.2 ?_⟩
    have h2 := pow2_le hl
    have h3 := pow2_pos (low (τ.1 c) (τ.2.1 c))
    exact Int.le_trans (Int.mul_le_mul (show ((zr s τ.2.2 12 : Nat) : Int) + 1 ≤ 12 by omega) h2 (by omega) (by omega)) (by decide)
theorem unz_bd {x : Int} (h0 : 0 ≤ x) (h1 : x ≤ 511) : -256 ≤ unz x ∧ unz x ≤ 255 := by unfold unz; split <;> omega
theorem bpos_le (s : Nat → Int) (τ : dS) (c : Int) : bpos s τ c ≤ τ.2.2 + 21 := by
  have hz := zr_le s 12 τ.2.2
  have hl := low_le (τ.1 c) (τ.2.1 c)
  unfold bpos; split <;> omega
/-- the coder of bits reads -/
def xR0 (F : Int → Int) (fr en ln : Int) (f : Nat → Nat → Int) (a : Nat → Int → Int) (τ : dS) : Prop :=
  f 14 2 = 1 ∧ a 9 = F ∧ f 8 0 = ln ∧ f 8 4 = en ∧ f 8 3 = fr + ((τ.2.2 + 7) / 8 : Nat) ∧ f 14 6 = 8 * ((τ.2.2 + 7) / 8 : Nat) - (τ.2.2 : Int) ∧ (τ.2.2 % 8 ≠ 0 → f 14 5 = sB F en (fr + (τ.2.2 / 8 : Nat))) ∧ (∀ j, 0 ≤ j → j < 126 → a 15 j = τ.1 j ∧ a 16 j = τ.2.1 j) ∧ bC (τ.1, τ.2.1, 0, 0, 0)
/-- what reading changes: not the draft -/
def xFr (f : Nat → Nat → Int) (a : Nat → Int → Int) (f' : Nat → Nat → Int) (a' : Nat → Int → Int) : Prop := xFc f a f' a' ∧ a' 11 = a 11
theorem xFr.refl (f : Nat → Nat → Int) (a : Nat → Int → Int) : xFr f a f a := ⟨xFc.refl _ _, rfl⟩
theorem xFr.trans {f f' f'' : Nat → Nat → Int} {a a' a'' : Nat → Int → Int} (h : xFr f a f' a') (h' : xFr f' a' f'' a'') : xFr f a f'' a'' := ⟨h.1.trans h'.1, h'.2.trans h.2⟩
section S63
variable {d : Nat} {Q : xm_H × Outcome → Prop} {f : Nat → Nat → Int} {a : Nat → Int → Int} {g : xG} {x b c e k m z w : Int} {F : Int → Int} {fr en ln : Int} {τ : dS} {l6 l7 l8 : Value}
theorem s_take (h0 : 0 ≤ f 8 3) (h1 : f 8 3 ≤ 1000000) (h2 : f 8 4 ≤ f 8 0) (h4 : 0 ≤ f 8 4) (h3 : f 8 0 ≤ 1200) : xTC d 52 [.ref 8] (hh f a g) Q ↔ Q (hh (xu f 8 3 (f 8 3 + 1)) a g, .returned (some (.int (xI (sB (a 9) (f 8 4) (f 8 3)))))) := by
  rw [e52]
  by_cases hc : f 8 3 < f 8 4
  · have : sB (a 9) (f 8 4) (f 8 3) = a 9 (f 8 3) := if_pos hc
    rw [this]
    simp (config := {contextual := true, maxSteps := 1000000}) (disch := omega) only [r52_0, r52_1, r52_1_1, r52_4_T, r52_4_F, r52_4, r52_7, r52_8, r52_8_1, r52_11, r52_12, r52_12_1, r52_15_T, r52_15_F, r52_15, r52_18, r52_19, r52_19_1, r52_22, r52_23, r52_23_1, r52_26_T, r52_26_F, r52_26, r52_29, r52_30, r52_30_1, r52_33, r52_34, r52_34_1, r52_37, r52_37_1, r52_38, r52_41, r52_42, r52_43, r52_44, r52_45, r52_45_1, r52_48, r52_49, r52_50, r52_50_1, r52_53, r52_54, xAf_none, xAf_some, xu_app, Nat.reduceAdd, Nat.reduceSub, Nat.reduceEqDiff, Nat.reduceMul, reduceIte, and_self, and_true, true_and, and_false, false_and, true_implies, false_implies, implies_true, not_true_eq_false, not_false_eq_true, Int.reduceToNat, Int.reducePow, Int.reduceNeg, Int.reduceLT, Int.reduceLE, Int.reduceAdd, Int.reduceSub, Int.reduceMul, Int.reduceDiv, Int.reduceMod, Int.reduceEq, xA_1, xA_15, xA_255, xA_511, xA_65535, xA_32768]
  · have : sB (a 9) (f 8 4) (f 8 3) = 0 := if_neg hc
    rw [this]
    simp (config := {contextual := true, maxSteps := 1000000}) (disch := omega) only [r52_0, r52_1, r52_1_1, r52_4_T, r52_4_F, r52_4, r52_7, r52_8, r52_8_1, r52_11, r52_12, r52_12_1, r52_15_T, r52_15_F, r52_15, r52_18, r52_19, r52_19_1, r52_22, r52_23, r52_23_1, r52_26_T, r52_26_F, r52_26, r52_29, r52_30, r52_30_1, r52_33, r52_34, r52_34_1, r52_37, r52_37_1, r52_38, r52_41, r52_42, r52_43, r52_44, r52_45, r52_45_1, r52_48, r52_49, r52_50, r52_50_1, r52_53, r52_54, xAf_none, xAf_some, xu_app, Nat.reduceAdd, Nat.reduceSub, Nat.reduceEqDiff, Nat.reduceMul, reduceIte, and_self, and_true, true_and, and_false, false_and, true_implies, false_implies, implies_true, not_true_eq_false, not_false_eq_true, Int.reduceToNat, Int.reducePow, Int.reduceNeg, Int.reduceLT, Int.reduceLE, Int.reduceAdd, Int.reduceSub, Int.reduceMul, Int.reduceDiv, Int.reduceMod, Int.reduceEq, xA_1, xA_15, xA_255, xA_511, xA_65535, xA_32768]
theorem p_take {q : Int} (h83 : f 8 3 = q) (h84 : f 8 4 = en) (h80 : f 8 0 = ln) (h9 : a 9 = F) (q0 : 0 ≤ q) (q1 : q ≤ 1000000) (hen : en ≤ ln) (hen0 : 0 ≤ en) (hln : ln ≤ 1200) (hk : Q (hh (xu f 8 3 (q + 1)) a g, .returned (some (.int (xI (sB F en q)))))) : xTC d 52 [.ref 8] (hh f a g) Q := by
  subst h83 h84 h80 h9
  rw [s_take q0 q1 hen hen0 hln]; exact hk
set_option maxRecDepth 100000 in
theorem p_rdbit (hF : ∀ j, 0 ≤ F j ∧ F j ≤ 255) (hfr : 0 ≤ fr) (hfr1 : fr ≤ 1200) (hen : en ≤ ln) (hen0 : 0 ≤ en) (hln : ln ≤ 1200) (h : xR0 F fr en ln f a τ) (hp : τ.2.2 ≤ 10000) (hd : 2 ≤ d) (hk : ∀ f' a', xR0 F fr en ln f' a' (τ.1, τ.2.1, τ.2.2 + 1) → xFr f a f' a' → Q (hh f' a' g, .returned (some (.int (xI (bt F fr en τ.2.2)))))) : xTC d 63 [.ref 14, .int (xI b)] (hh f a g) Q := by
  obtain ⟨S, C, p⟩ := τ
  obtain ⟨h2, h9, h80, h84, h83, h6, h5, hT, hC⟩ := h
  dsimp only at h83 h6 h5 hT hC hp hk
  have hby := sB_bd hF en (fr + (p / 8 : Nat))
  rw [e63]
  by_cases hm : p % 8 = 0
  · have h6' : f 14 6 = 0 := by rw [h6]; omega
    have h83' : f 8 3 = fr + (p / 8 : Nat) := by rw [h83]; omega
    have hbt : bt F fr en p = sB F en (fr + (p / 8 : Nat)) / 128 % 2 := by unfold bt; rw [hm]; rfl
    rw [hbt] at hk
    obtain ⟨v, hv⟩ : ∃ v, sB F en (fr + (p / 8 : Nat)) = v := ⟨_, rfl⟩
    rw [hv] at hk hby
    simp (config := {contextual := true, maxSteps := 1000000}) (disch := omega) only [r63_0, r63_1, r63_4_T, r63_4_F, r63_4, r63_7, r63_8, r63_10, r63_13, r63_14, r63_17_T, r63_17_F, r63_17, r63_20, r63_21, r63_22, r63_25, r63_28, r63_31, r63_34, r63_35, r63_36, r63_39, r63_40, r63_43, r63_44, r63_47, r63_48, r63_49, r63_52, r63_53, r63_54, r63_57, r63_58, r63_61_T, r63_61_F, r63_61, r63_64, r63_65, r63_68, r63_69, r63_72, r63_73, r63_74, r63_75, r63_76, r63_77, r63_78, r63_81, r63_82, r63_83, r63_86, r63_87, r63_88, r63_91, r63_92, r63_95, r63_96, r63_99, r63_102, r63_103, r63_104, r63_105, r63_108, r63_111, r63_112, h6', h2, xAf_none, xAf_some, xu_app, Nat.reduceAdd, Nat.reduceSub, Nat.reduceEqDiff, Nat.reduceMul, reduceIte, and_self, and_true, true_and, and_false, false_and, true_implies, false_implies, implies_true, not_true_eq_false, not_false_eq_true, Int.reduceToNat, Int.reducePow, Int.reduceNeg, Int.reduceLT, Int.reduceLE, Int.reduceAdd, Int.reduceSub, Int.reduceMul, Int.reduceDiv, Int.reduceMod, Int.reduceEq, xA_1, xA_15, xA_255, xA_511, xA_65535, xA_32768]
    refine p_take h83' h84 h80 h9 (by omega) (by omega) hen hen0 hln ?_
    rw [hv]
    simp (config := {contextual := true, maxSteps := 1000000}) (disch := omega) only [r63_0, r63_1, r63_4_T, r63_4_F, r63_4, r63_7, r63_8, r63_10, r63_13, r63_14, r63_17_T, r63_17_F, r63_17, r63_20, r63_21, r63_22, r63_25, r63_28, r63_31, r63_34, r63_35, r63_36, r63_39, r63_40, r63_43, r63_44, r63_47, r63_48, r63_49, r63_52, r63_53, r63_54, r63_57, r63_58, r63_61_T, r63_61_F, r63_61, r63_64, r63_65, r63_68, r63_69, r63_72, r63_73, r63_74, r63_75, r63_76, r63_77, r63_78, r63_81, r63_82, r63_83, r63_86, r63_87, r63_88, r63_91, r63_92, r63_95, r63_96, r63_99, r63_102, r63_103, r63_104, r63_105, r63_108, r63_111, r63_112, h2, xAf_none, xAf_some, xu_app, Nat.reduceAdd, Nat.reduceSub, Nat.reduceEqDiff, Nat.reduceMul, reduceIte, and_self, and_true, true_and, and_false, false_and, true_implies, false_implies, implies_true, not_true_eq_false, not_false_eq_true, Int.reduceToNat, Int.reducePow, Int.reduceNeg, Int.reduceLT, Int.reduceLE, Int.reduceAdd, Int.reduceSub, Int.reduceMul, Int.reduceDiv, Int.reduceMod, Int.reduceEq, xA_1, xA_15, xA_255, xA_511, xA_65535, xA_32768]
    refine hk _ _ ⟨h2, h9, h80, h84, ?_, ?_, fun _ => ?_, hT, hC⟩ ⟨⟨fun i i1 i2 i3 i4 => ?_, fun k hk => ?_, fun _ _ _ _ _ => rfl⟩, rfl⟩
    · show fr + (p / 8 : Nat) + 1 = _; dsimp only; omega
    · show (7 : Int) = 8 * (((p + 1) + 7) / 8 : Nat) - ((p + 1 : Nat) : Int); omega
    · show v = _; rw [← hv]; dsimp only; congr 2; omega
    · simp only [xu_ne _ i1, xu_ne _ i3]
    · simp only [xu_app]; rw [if_neg (by omega), if_neg (by omega), if_neg (by omega), if_neg (by omega)]
  · have h6' : ¬ f 14 6 = 0 := by rw [h6]; omega
    have h6b : f 14 6 = 8 - (p % 8 : Nat) := by rw [h6]; omega
    have h5' := h5 hm
    obtain ⟨v, hv⟩ : ∃ v, sB F en (fr + (p / 8 : Nat)) = v := ⟨_, rfl⟩
    rw [hv] at h5' hby
    obtain ⟨u, hu⟩ : ∃ u : Nat, 7 - p % 8 = u := ⟨_, rfl⟩
    have h6c : f 14 6 - 1 = (u : Int) := by omega
    have et : ((u : Int)).toNat = u := by omega
    have hbt : bt F fr en p = v / 2 ^ u % 2 := by unfold bt; rw [hv, hu]
    rw [hbt] at hk
    have hdb := div_bound hby.1 u
    simp (config := {contextual := true, maxSteps := 1000000}) (disch := omega) only [r63_0, r63_1, r63_4_T, r63_4_F, r63_4, r63_7, r63_8, r63_10, r63_13, r63_14, r63_17_T, r63_17_F, r63_17, r63_20, r63_21, r63_22, r63_25, r63_28, r63_31, r63_34, r63_35, r63_36, r63_39, r63_40, r63_43, r63_44, r63_47, r63_48, r63_49, r63_52, r63_53, r63_54, r63_57, r63_58, r63_61_T, r63_61_F, r63_61, r63_64, r63_65, r63_68, r63_69, r63_72, r63_73, r63_74, r63_75, r63_76, r63_77, r63_78, r63_81, r63_82, r63_83, r63_86, r63_87, r63_88, r63_91, r63_92, r63_95, r63_96, r63_99, r63_102, r63_103, r63_104, r63_105, r63_108, r63_111, r63_112, h6', h2, h5', h6c, et, xAf_none, xAf_some, xu_app, Nat.reduceAdd, Nat.reduceSub, Nat.reduceEqDiff, Nat.reduceMul, reduceIte, and_self, and_true, true_and, and_false, false_and, true_implies, false_implies, implies_true, not_true_eq_false, not_false_eq_true, Int.reduceToNat, Int.reducePow, Int.reduceNeg, Int.reduceLT, Int.reduceLE, Int.reduceAdd, Int.reduceSub, Int.reduceMul, Int.reduceDiv, Int.reduceMod, Int.reduceEq, xA_1, xA_15, xA_255, xA_511, xA_65535, xA_32768]
    refine hk _ _ ⟨h2, h9, h80, h84, ?_, ?_, fun hne => ?_, hT, hC⟩ ⟨⟨fun i i1 i2 i3 i4 => ?_, fun k hk => ?_, fun _ _ _ _ _ => rfl⟩, rfl⟩
    · show f 8 3 = _; dsimp only; rw [h83]; omega
    · show (u : Int) = 8 * (((p + 1) + 7) / 8 : Nat) - ((p + 1 : Nat) : Int); omega
    · have hne' : (p + 1) % 8 ≠ 0 := hne
      show f 14 5 = sB F en (fr + ((p + 1) / 8 : Nat)); rw [h5', ← hv]; congr 2; omega
    · simp only [xu_ne _ i3]
    · simp only [xu_app]; rw [if_neg (by omega)]
set_option maxRecDepth 100000 in
/-- the zeros are counted -/
theorem l_rz (hF : ∀ j, 0 ≤ F j ∧ F j ≤ 255) (hfr : 0 ≤ fr) (hfr1 : fr ≤ 1200) (hen : en ≤ ln) (hen0 : 0 ≤ en) (hln : ln ≤ 1200) {k : Nat} (hk8 : k ≤ 8) (m0 : 0 ≤ m) (m1 : m ≤ 511) (hd : 3 ≤ d) {S C : Int → Int} (r : Nat) : ∀ (f : Nat → Nat → Int) (a : Nat → Int → Int) (p i : Nat), i + r = 12 → p + r ≤ 10000 → xR0 F fr en ln f a (S, C, p) →
    (∀ f' a', xR0 F fr en ln f' a' (S, C, if zr (bt F fr en) p r = r then p + r else p + zr (bt F fr en) p r + 1) → xFr f a f' a' → xT d 60 61 [.ref 14, .int (xI c), .int (xI e), .int (xI (k : Int)), .int (xI m), .int (xI ((i + zr (bt F fr en) p r : Nat) : Int)), l6, l7, l8] [] (hh f' a' g) Q) →
    xT d 60 27 [.ref 14, .int (xI c), .int (xI e), .int (xI (k : Int)), .int (xI m), .int (xI (i : Int)), l6, l7, l8] [] (hh f a g) Q := by
  have et : ((k : Int)).toNat = k := by omega
  have hbd := div_bound m0 k
  induction r with
  | zero =>
    intro f a p i hi hp hW hk
    have hi' : i = 12 := by omega
    subst hi'
    rw [r60_27]
    simp (config := {contextual := true, maxSteps := 1000000}) (disch := omega) only [r60_0, r60_1, r60_2, r60_5, r60_6, r60_7_T, r60_7_F, r60_7, r60_10, r60_12, r60_13, r60_14, r60_15, r60_16, r60_19, r60_20, r60_21, r60_22, r60_24, r60_25, r60_29, r60_31_T, r60_31_F, r60_31, r60_34, r60_35, r60_37, r60_39, r60_40, r60_41_T, r60_41_F, r60_41, r60_44, r60_45, r60_48, r60_49, r60_52_T, r60_52_F, r60_52, r60_55, r60_58, r60_63, r60_65_T, r60_65_F, r60_65, r60_68, r60_69, r60_72, r60_73, r60_75, r60_77_T, r60_77_F, r60_77, r60_80, r60_81, r60_84, r60_86, r60_88, r60_90_T, r60_90_F, r60_90, r60_93, r60_95, r60_98, r60_99, r60_100, r60_101, r60_105_T, r60_105_F, r60_105, r60_108, r60_110, r60_111, r60_112, r60_113, r60_115, r60_117, r60_118, r60_119, r60_120, r60_123, r60_124, r60_126, r60_129, r60_132, r60_134, r60_137, r60_138, r60_140, r60_142, r60_143, r60_144_T, r60_144_F, r60_144, r60_147, r60_149, r60_150, r60_151, r60_154, r60_156, r60_157, r60_158, r60_159, r60_160, r60_161, r60_163, r60_164, r60_165, r60_167, r60_170, r60_172, et, xAf_none, xAf_some, xu_app, Nat.reduceAdd, Nat.reduceSub, Nat.reduceEqDiff, Nat.reduceMul, reduceIte, and_self, and_true, true_and, and_false, false_and, true_implies, false_implies, implies_true, not_true_eq_false, not_false_eq_true, Int.reduceToNat, Int.reducePow, Int.reduceNeg, Int.reduceLT, Int.reduceLE, Int.reduceAdd, Int.reduceSub, Int.reduceMul, Int.reduceDiv, Int.reduceMod, Int.reduceEq, xA_1, xA_15, xA_255, xA_511, xA_65535, xA_32768]
    exact hk _ _ hW (xFr.refl _ _)
  | succ r ih =>
    intro f a p i hi hp hW hk
    have hin : (i : Int) < 12 := by omega
    have hbit : ∀ b : Int, xTC (d - 1) 63 [.ref 14, .int (xI b)] (hh f a g) (xAf d 60 49 [.ref 14, .int (xI c), .int (xI e), .int (xI (k : Int)), .int (xI m), .int (xI (i : Int)), l6, l7, l8] [] Q) := fun b => by
      refine p_rdbit hF hfr hfr1 hen hen0 hln hW (by dsimp only; omega) (by omega) fun f1 a1 W1 F1 => ?_
      unfold zr at hk
      dsimp only at W1 ⊢
      rcases bt_bd F fr en p with h0 | h1
      · rw [h0]
        simp only [h0, if_true] at hk
        simp (config := {contextual := true, maxSteps := 1000000}) (disch := omega) only [r60_0, r60_1, r60_2, r60_5, r60_6, r60_7_T, r60_7_F, r60_7, r60_10, r60_12, r60_13, r60_14, r60_15, r60_16, r60_19, r60_20, r60_21, r60_22, r60_24, r60_25, r60_29, r60_31_T, r60_31_F, r60_31, r60_34, r60_35, r60_37, r60_39, r60_40, r60_41_T, r60_41_F, r60_41, r60_44, r60_45, r60_48, r60_49, r60_52_T, r60_52_F, r60_52, r60_55, r60_58, r60_63, r60_65_T, r60_65_F, r60_65, r60_68, r60_69, r60_72, r60_73, r60_75, r60_77_T, r60_77_F, r60_77, r60_80, r60_81, r60_84, r60_86, r60_88, r60_90_T, r60_90_F, r60_90, r60_93, r60_95, r60_98, r60_99, r60_100, r60_101, r60_105_T, r60_105_F, r60_105, r60_108, r60_110, r60_111, r60_112, r60_113, r60_115, r60_117, r60_118, r60_119, r60_120, r60_123, r60_124, r60_126, r60_129, r60_132, r60_134, r60_137, r60_138, r60_140, r60_142, r60_143, r60_144_T, r60_144_F, r60_144, r60_147, r60_149, r60_150, r60_151, r60_154, r60_156, r60_157, r60_158, r60_159, r60_160, r60_161, r60_163, r60_164, r60_165, r60_167, r60_170, r60_172, xAf_none, xAf_some, xu_app, Nat.reduceAdd, Nat.reduceSub, Nat.reduceEqDiff, Nat.reduceMul, reduceIte, and_self, and_true, true_and, and_false, false_and, true_implies, false_implies, implies_true, not_true_eq_false, not_false_eq_true, Int.reduceToNat, Int.reducePow, Int.reduceNeg, Int.reduceLT, Int.reduceLE, Int.reduceAdd, Int.reduceSub, Int.reduceMul, Int.reduceDiv, Int.reduceMod, Int.reduceEq, xA_1, xA_15, xA_255, xA_511, xA_65535, xA_32768]
        have hnx : ((i : Int) + 1) = ((i + 1 : Nat) : Int) := by omega
        rw [hnx]
        refine ih f1 a1 (p + 1) (i + 1) (by omega) (by omega) W1 fun f2 a2 W2 F2 => ?_
        have e1 : i + 1 + zr (bt F fr en) (p + 1) r = i + (zr (bt F fr en) (p + 1) r + 1) := by omega
        rw [e1]
        refine hk f2 a2 ?_ (F1.trans F2)
        by_cases hz : zr (bt F fr en) (p + 1) r = r
        · rw [if_pos hz] at W2; rw [if_pos (by omega)]
          rw [show p + (r + 1) = p + 1 + r by omega]; exact W2
        · rw [if_neg hz] at W2; rw [if_neg (by omega)]
          rw [show p + (zr (bt F fr en) (p + 1) r + 1) + 1 = p + 1 + zr (bt F fr en) (p + 1) r + 1 by omega]; exact W2
      · rw [h1]
        simp only [h1, show ¬ (1 : Int) = 0 by decide, if_false] at hk
        simp (config := {contextual := true, maxSteps := 1000000}) (disch := omega) only [r60_0, r60_1, r60_2, r60_5, r60_6, r60_7_T, r60_7_F, r60_7, r60_10, r60_12, r60_13, r60_14, r60_15, r60_16, r60_19, r60_20, r60_21, r60_22, r60_24, r60_25, r60_29, r60_31_T, r60_31_F, r60_31, r60_34, r60_35, r60_37, r60_39, r60_40, r60_41_T, r60_41_F, r60_41, r60_44, r60_45, r60_48, r60_49, r60_52_T, r60_52_F, r60_52, r60_55, r60_58, r60_63, r60_65_T, r60_65_F, r60_65, r60_68, r60_69, r60_72, r60_73, r60_75, r60_77_T, r60_77_F, r60_77, r60_80, r60_81, r60_84, r60_86, r60_88, r60_90_T, r60_90_F, r60_90, r60_93, r60_95, r60_98, r60_99, r60_100, r60_101, r60_105_T, r60_105_F, r60_105, r60_108, r60_110, r60_111, r60_112, r60_113, r60_115, r60_117, r60_118, r60_119, r60_120, r60_123, r60_124, r60_126, r60_129, r60_132, r60_134, r60_137, r60_138, r60_140, r60_142, r60_143, r60_144_T, r60_144_F, r60_144, r60_147, r60_149, r60_150, r60_151, r60_154, r60_156, r60_157, r60_158, r60_159, r60_160, r60_161, r60_163, r60_164, r60_165, r60_167, r60_170, r60_172, xAf_none, xAf_some, xu_app, Nat.reduceAdd, Nat.reduceSub, Nat.reduceEqDiff, Nat.reduceMul, reduceIte, and_self, and_true, true_and, and_false, false_and, true_implies, false_implies, implies_true, not_true_eq_false, not_false_eq_true, Int.reduceToNat, Int.reducePow, Int.reduceNeg, Int.reduceLT, Int.reduceLE, Int.reduceAdd, Int.reduceSub, Int.reduceMul, Int.reduceDiv, Int.reduceMod, Int.reduceEq, xA_1, xA_15, xA_255, xA_511, xA_65535, xA_32768]
        refine hk f1 a1 ?_ F1
        rw [if_neg (by omega)]; exact W1
    rw [r60_27]
    by_cases hc : (i : Int) < m / 2 ^ k
    · simp (config := {contextual := true, maxSteps := 1000000}) (disch := omega) only [r60_0, r60_1, r60_2, r60_5, r60_6, r60_7_T, r60_7_F, r60_7, r60_10, r60_12, r60_13, r60_14, r60_15, r60_16, r60_19, r60_20, r60_21, r60_22, r60_24, r60_25, r60_29, r60_31_T, r60_31_F, r60_31, r60_34, r60_35, r60_37, r60_39, r60_40, r60_41_T, r60_41_F, r60_41, r60_44, r60_45, r60_48, r60_49, r60_52_T, r60_52_F, r60_52, r60_55, r60_58, r60_63, r60_65_T, r60_65_F, r60_65, r60_68, r60_69, r60_72, r60_73, r60_75, r60_77_T, r60_77_F, r60_77, r60_80, r60_81, r60_84, r60_86, r60_88, r60_90_T, r60_90_F, r60_90, r60_93, r60_95, r60_98, r60_99, r60_100, r60_101, r60_105_T, r60_105_F, r60_105, r60_108, r60_110, r60_111, r60_112, r60_113, r60_115, r60_117, r60_118, r60_119, r60_120, r60_123, r60_124, r60_126, r60_129, r60_132, r60_134, r60_137, r60_138, r60_140, r60_142, r60_143, r60_144_T, r60_144_F, r60_144, r60_147, r60_149, r60_150, r60_151, r60_154, r60_156, r60_157, r60_158, r60_159, r60_160, r60_161, r60_163, r60_164, r60_165, r60_167, r60_170, r60_172, et, xAf_none, xAf_some, xu_app, Nat.reduceAdd, Nat.reduceSub, Nat.reduceEqDiff, Nat.reduceMul, reduceIte, and_self, and_true, true_and, and_false, false_and, true_implies, false_implies, implies_true, not_true_eq_false, not_false_eq_true, Int.reduceToNat, Int.reducePow, Int.reduceNeg, Int.reduceLT, Int.reduceLE, Int.reduceAdd, Int.reduceSub, Int.reduceMul, Int.reduceDiv, Int.reduceMod, Int.reduceEq, xA_1, xA_15, xA_255, xA_511, xA_65535, xA_32768]
      exact hbit 0
    · simp (config := {contextual := true, maxSteps := 1000000}) (disch := omega) only [r60_0, r60_1, r60_2, r60_5, r60_6, r60_7_T, r60_7_F, r60_7, r60_10, r60_12, r60_13, r60_14, r60_15, r60_16, r60_19, r60_20, r60_21, r60_22, r60_24, r60_25, r60_29, r60_31_T, r60_31_F, r60_31, r60_34, r60_35, r60_37, r60_39, r60_40, r60_41_T, r60_41_F, r60_41, r60_44, r60_45, r60_48, r60_49, r60_52_T, r60_52_F, r60_52, r60_55, r60_58, r60_63, r60_65_T, r60_65_F, r60_65, r60_68, r60_69, r60_72, r60_73, r60_75, r60_77_T, r60_77_F, r60_77, r60_80, r60_81, r60_84, r60_86, r60_88, r60_90_T, r60_90_F, r60_90, r60_93, r60_95, r60_98, r60_99, r60_100, r60_101, r60_105_T, r60_105_F, r60_105, r60_108, r60_110, r60_111, r60_112, r60_113, r60_115, r60_117, r60_118, r60_119, r60_120, r60_123, r60_124, r60_126, r60_129, r60_132, r60_134, r60_137, r60_138, r60_140, r60_142, r60_143, r60_144_T, r60_144_F, r60_144, r60_147, r60_149, r60_150, r60_151, r60_154, r60_156, r60_157, r60_158, r60_159, r60_160, r60_161, r60_163, r60_164, r60_165, r60_167, r60_170, r60_172, et, xAf_none, xAf_some, xu_app, Nat.reduceAdd, Nat.reduceSub, Nat.reduceEqDiff, Nat.reduceMul, reduceIte, and_self, and_true, true_and, and_false, false_and, true_implies, false_implies, implies_true, not_true_eq_false, not_false_eq_true, Int.reduceToNat, Int.reducePow, Int.reduceNeg, Int.reduceLT, Int.reduceLE, Int.reduceAdd, Int.reduceSub, Int.reduceMul, Int.reduceDiv, Int.reduceMod, Int.reduceEq, xA_1, xA_15, xA_255, xA_511, xA_65535, xA_32768]
      exact hbit 1
set_option maxRecDepth 100000 in
theorem l_rd (hF : ∀ j, 0 ≤ F j ∧ F j ≤ 255) (hfr : 0 ≤ fr) (hfr1 : fr ≤ 1200) (hen : en ≤ ln) (hen0 : 0 ≤ en) (hln : ln ≤ 1200) (m0 : 0 ≤ m) (m1 : m ≤ 511) (hd : 3 ≤ d) {S C : Int → Int} (r : Nat) : ∀ (f : Nat → Nat → Int) (a : Nat → Int → Int) (p : Nat) (x : Int), r ≤ 9 → p + r ≤ 10000 → xR0 F fr en ln f a (S, C, p) →
    (∀ f' a', xR0 F fr en ln f' a' (S, C, p + r) → xFr f a f' a' → xT d 60 132 [.ref 14, .int (xI c), .int (xI e), .int (xI k), .int (xI m), .int (xI z), .int (xI w), .int (xI (bv (bt F fr en) p r x)), .int (xI (-1))] [] (hh f' a' g) Q) →
    xT d 60 103 [.ref 14, .int (xI c), .int (xI e), .int (xI k), .int (xI m), .int (xI z), .int (xI w), .int (xI x), .int (xI ((r : Int) - 1))] [] (hh f a g) Q := by
  induction r with
  | zero =>
    intro f a p x hr hp hW hk
    rw [r60_103]
    have e0 : ((0 : Nat) : Int) - 1 = -1 := by omega
    rw [e0]
    simp (config := {contextual := true, maxSteps := 1000000}) (disch := omega) only [r60_0, r60_1, r60_2, r60_5, r60_6, r60_7_T, r60_7_F, r60_7, r60_10, r60_12, r60_13, r60_14, r60_15, r60_16, r60_19, r60_20, r60_21, r60_22, r60_24, r60_25, r60_29, r60_31_T, r60_31_F, r60_31, r60_34, r60_35, r60_37, r60_39, r60_40, r60_41_T, r60_41_F, r60_41, r60_44, r60_45, r60_48, r60_49, r60_52_T, r60_52_F, r60_52, r60_55, r60_58, r60_61, r60_63, r60_65_T, r60_65_F, r60_65, r60_68, r60_69, r60_72, r60_73, r60_75, r60_77_T, r60_77_F, r60_77, r60_80, r60_81, r60_84, r60_86, r60_88, r60_90_T, r60_90_F, r60_90, r60_93, r60_95, r60_98, r60_99, r60_100, r60_101, r60_105_T, r60_105_F, r60_105, r60_108, r60_110, r60_111, r60_112, r60_113, r60_115, r60_117, r60_118, r60_119, r60_120, r60_123, r60_124, r60_126, r60_129, r60_134, r60_137, r60_138, r60_140, r60_142, r60_143, r60_144_T, r60_144_F, r60_144, r60_147, r60_149, r60_150, r60_151, r60_154, r60_156, r60_157, r60_158, r60_159, r60_160, r60_161, r60_163, r60_164, r60_165, r60_167, r60_170, r60_172, xAf_none, xAf_some, xu_app, Nat.reduceAdd, Nat.reduceSub, Nat.reduceEqDiff, Nat.reduceMul, reduceIte, and_self, and_true, true_and, and_false, false_and, true_implies, false_implies, implies_true, not_true_eq_false, not_false_eq_true, Int.reduceToNat, Int.reducePow, Int.reduceNeg, Int.reduceLT, Int.reduceLE, Int.reduceAdd, Int.reduceSub, Int.reduceMul, Int.reduceDiv, Int.reduceMod, Int.reduceEq, xA_1, xA_15, xA_255, xA_511, xA_65535, xA_32768]
    exact hk _ _ hW (xFr.refl _ _)
  | succ r ih =>
    intro f a p x hr hp hW hk
    rw [r60_103]
    have e0 : ((r + 1 : Nat) : Int) - 1 = r := by omega
    have et : ((r : Int)).toNat = r := by omega
    have hbd := div_bound m0 r
    rw [e0]
    simp (config := {contextual := true, maxSteps := 1000000}) (disch := omega) only [r60_0, r60_1, r60_2, r60_5, r60_6, r60_7_T, r60_7_F, r60_7, r60_10, r60_12, r60_13, r60_14, r60_15, r60_16, r60_19, r60_20, r60_21, r60_22, r60_24, r60_25, r60_29, r60_31_T, r60_31_F, r60_31, r60_34, r60_35, r60_37, r60_39, r60_40, r60_41_T, r60_41_F, r60_41, r60_44, r60_45, r60_48, r60_49, r60_52_T, r60_52_F, r60_52, r60_55, r60_58, r60_61, r60_63, r60_65_T, r60_65_F, r60_65, r60_68, r60_69, r60_72, r60_73, r60_75, r60_77_T, r60_77_F, r60_77, r60_80, r60_81, r60_84, r60_86, r60_88, r60_90_T, r60_90_F, r60_90, r60_93, r60_95, r60_98, r60_99, r60_100, r60_101, r60_105_T, r60_105_F, r60_105, r60_108, r60_110, r60_111, r60_112, r60_113, r60_115, r60_117, r60_118, r60_119, r60_120, r60_123, r60_124, r60_126, r60_129, r60_132, r60_134, r60_137, r60_138, r60_140, r60_142, r60_143, r60_144_T, r60_144_F, r60_144, r60_147, r60_149, r60_150, r60_151, r60_154, r60_156, r60_157, r60_158, r60_159, r60_160, r60_161, r60_163, r60_164, r60_165, r60_167, r60_170, r60_172, et, xAf_none, xAf_some, xu_app, Nat.reduceAdd, Nat.reduceSub, Nat.reduceEqDiff, Nat.reduceMul, reduceIte, and_self, and_true, true_and, and_false, false_and, true_implies, false_implies, implies_true, not_true_eq_false, not_false_eq_true, Int.reduceToNat, Int.reducePow, Int.reduceNeg, Int.reduceLT, Int.reduceLE, Int.reduceAdd, Int.reduceSub, Int.reduceMul, Int.reduceDiv, Int.reduceMod, Int.reduceEq, xA_1, xA_15, xA_255, xA_511, xA_65535, xA_32768]
    refine p_rdbit hF hfr hfr1 hen hen0 hln hW (by dsimp only; omega) (by omega) fun f1 a1 W1 F1 => ?_
    dsimp only at W1 ⊢
    simp (config := {contextual := true, maxSteps := 1000000}) (disch := omega) only [r60_0, r60_1, r60_2, r60_5, r60_6, r60_7_T, r60_7_F, r60_7, r60_10, r60_12, r60_13, r60_14, r60_15, r60_16, r60_19, r60_20, r60_21, r60_22, r60_24, r60_25, r60_29, r60_31_T, r60_31_F, r60_31, r60_34, r60_35, r60_37, r60_39, r60_40, r60_41_T, r60_41_F, r60_41, r60_44, r60_45, r60_48, r60_49, r60_52_T, r60_52_F, r60_52, r60_55, r60_58, r60_61, r60_63, r60_65_T, r60_65_F, r60_65, r60_68, r60_69, r60_72, r60_73, r60_75, r60_77_T, r60_77_F, r60_77, r60_80, r60_81, r60_84, r60_86, r60_88, r60_90_T, r60_90_F, r60_90, r60_93, r60_95, r60_98, r60_99, r60_100, r60_101, r60_105_T, r60_105_F, r60_105, r60_108, r60_110, r60_111, r60_112, r60_113, r60_115, r60_117, r60_118, r60_119, r60_120, r60_123, r60_124, r60_126, r60_129, r60_132, r60_134, r60_137, r60_138, r60_140, r60_142, r60_143, r60_144_T, r60_144_F, r60_144, r60_147, r60_149, r60_150, r60_151, r60_154, r60_156, r60_157, r60_158, r60_159, r60_160, r60_161, r60_163, r60_164, r60_165, r60_167, r60_170, r60_172, xAf_none, xAf_some, xu_app, Nat.reduceAdd, Nat.reduceSub, Nat.reduceEqDiff, Nat.reduceMul, reduceIte, and_self, and_true, true_and, and_false, false_and, true_implies, false_implies, implies_true, not_true_eq_false, not_false_eq_true, Int.reduceToNat, Int.reducePow, Int.reduceNeg, Int.reduceLT, Int.reduceLE, Int.reduceAdd, Int.reduceSub, Int.reduceMul, Int.reduceDiv, Int.reduceMod, Int.reduceEq, xA_1, xA_15, xA_255, xA_511, xA_65535, xA_32768]
    refine ih f1 a1 (p + 1) _ (by omega) (by omega) W1 fun f2 a2 W2 F2 => hk _ _ ?_ (F1.trans F2)
    rw [show p + (r + 1) = p + 1 + r by omega]; exact W2
set_option maxRecDepth 100000 in
theorem p_rdcode (hF : ∀ j, 0 ≤ F j ∧ F j ≤ 255) (hfr : 0 ≤ fr) (hfr1 : fr ≤ 1200) (hen : en ≤ ln) (hen0 : 0 ≤ en) (hln : ln ≤ 1200) (hW : xR0 F fr en ln f a τ) (hp : τ.2.2 ≤ 3000) (c0 : 0 ≤ c) (c1 : c < 126) (e0 : -256 ≤ e) (e1 : e ≤ 255) (hd : 3 ≤ d) (hk : ∀ f' a', xR0 F fr en ln f' a' (bdN (bt F fr en) τ c) → xFr f a f' a' → Q (hh f' a' g, .returned (some (.int (xI (bdO (bt F fr en) τ c)))))) : xTC d 60 [.ref 14, .int (xI c), .int (xI e)] (hh f a g) Q := by
  obtain ⟨S, C, p⟩ := τ
  have hT := hW.2.2.2.2.2.2.2.1
  have hC := hW.2.2.2.2.2.2.2.2
  have hTc := hT c c0 c1
  have hCc := hC c
  dsimp only at hTc hCc hp
  obtain ⟨m, hm⟩ : ∃ m, zig e = m := ⟨_, rfl⟩
  have hm0 : 0 ≤ m ∧ m ≤ 511 := by rw [← hm]; unfold zig; split <;> omega
  obtain ⟨k, hlow⟩ : ∃ k, low (S c) (C c) = k := ⟨_, rfl⟩
  have hk8 : k ≤ 8 := by rw [← hlow]; exact low_le _ _
  have hgb := bgot_bd (bt_bd F fr en) (S, C, p) c
  obtain ⟨x, hx⟩ : ∃ x, bgot (bt F fr en) (S, C, p) c = x := ⟨_, rfl⟩
  rw [hx] at hgb
  have hO : bdO (bt F fr en) (S, C, p) c = unz (x % 512) := by unfold bdO; rw [hx]
  have hub := unz_bd (x := x % 512) (by omega) (by omega)
  have hzl := zr_le (bt F fr en) 12 p
  obtain ⟨zz, hzz⟩ : ∃ zz, zr (bt F fr en) p 12 = zz := ⟨_, rfl⟩
  have hend : ∀ (f1 : Nat → Nat → Int) (a1 : Nat → Int → Int) (kk z w : Int), xR0 F fr en ln f1 a1 (S, C, bpos (bt F fr en) (S, C, p) c) → xFr f a f1 a1 → xT d 60 132 [.ref 14, .int (xI c), .int (xI e), .int (xI kk), .int (xI m), .int (xI z), .int (xI w), .int (xI x), .int (xI (-1))] [] (hh f1 a1 g) Q := fun f1 a1 kk z w W1 F1 => by
    have key : ∀ o, unz (x % 512) = o → xTC (d - 1) 62 [.ref 14, .int (xI c), .int (xI o)] (hh f1 a1 g) (xAf d 60 167 [.ref 14, .int (xI c), .int (xI e), .int (xI kk), .int (xI m), .int (xI z), .int (xI w), .int (xI (x % 512)), .int (xI o)] [] Q) := fun o ho => by
      rw [ho] at hub hO
      refine p_learn (σ := (S, C, 0, 0, 0)) W1.2.2.2.2.2.2.2.1 W1.2.2.2.2.2.2.2.2 c0 c1 hub.1 (by omega) (by omega) fun a2 T2 F2 => ?_
      simp (config := {contextual := true, maxSteps := 1000000}) (disch := omega) only [r60_0, r60_1, r60_2, r60_5, r60_6, r60_7_T, r60_7_F, r60_7, r60_10, r60_12, r60_13, r60_14, r60_15, r60_16, r60_19, r60_20, r60_21, r60_22, r60_24, r60_25, r60_29, r60_31_T, r60_31_F, r60_31, r60_34, r60_35, r60_37, r60_39, r60_40, r60_41_T, r60_41_F, r60_41, r60_44, r60_45, r60_48, r60_49, r60_52_T, r60_52_F, r60_52, r60_55, r60_58, r60_61, r60_63, r60_65_T, r60_65_F, r60_65, r60_68, r60_69, r60_72, r60_73, r60_75, r60_77_T, r60_77_F, r60_77, r60_80, r60_81, r60_84, r60_86, r60_88, r60_90_T, r60_90_F, r60_90, r60_93, r60_95, r60_98, r60_99, r60_100, r60_101, r60_105_T, r60_105_F, r60_105, r60_108, r60_110, r60_111, r60_112, r60_113, r60_115, r60_117, r60_118, r60_119, r60_120, r60_123, r60_124, r60_126, r60_129, r60_132, r60_134, r60_137, r60_138, r60_140, r60_142, r60_143, r60_144_T, r60_144_F, r60_144, r60_147, r60_149, r60_150, r60_151, r60_154, r60_156, r60_157, r60_158, r60_159, r60_160, r60_161, r60_163, r60_164, r60_165, r60_167, r60_170, r60_172, xAf_none, xAf_some, xu_app, Nat.reduceAdd, Nat.reduceSub, Nat.reduceEqDiff, Nat.reduceMul, reduceIte, and_self, and_true, true_and, and_false, false_and, true_implies, false_implies, implies_true, not_true_eq_false, not_false_eq_true, Int.reduceToNat, Int.reducePow, Int.reduceNeg, Int.reduceLT, Int.reduceLE, Int.reduceAdd, Int.reduceSub, Int.reduceMul, Int.reduceDiv, Int.reduceMod, Int.reduceEq, xA_1, xA_15, xA_255, xA_511, xA_65535, xA_32768]
      rw [← hO]
      refine hk _ _ ?_ (F1.trans ⟨⟨fun _ _ _ _ _ => rfl, fun _ _ => rfl, fun i i1 i2 i3 i4 => F2 i i2 i3⟩, F2 11 (by decide) (by decide)⟩)
      obtain ⟨w1, w2, w3, w4, w5, w6, w7, -, w9⟩ := W1
      refine ⟨w1, ?_, w3, w4, w5, w6, w7, ?_, ?_⟩
      · rw [F2 9 (by decide) (by decide)]; exact w2
      · intro j j0 j1; unfold bdN dL; rw [hO]; exact T2 j j0 j1
      · unfold bdN dL; rw [hO]; exact bL_C w9 hub.1 (by omega)
    by_cases hev : x % 512 % 2 = 0
    · have he : unz (x % 512) = x % 512 / 2 := if_pos hev
      simp (config := {contextual := true, maxSteps := 1000000}) (disch := omega) only [r60_0, r60_1, r60_2, r60_5, r60_6, r60_7_T, r60_7_F, r60_7, r60_10, r60_12, r60_13, r60_14, r60_15, r60_16, r60_19, r60_20, r60_21, r60_22, r60_24, r60_25, r60_29, r60_31_T, r60_31_F, r60_31, r60_34, r60_35, r60_37, r60_39, r60_40, r60_41_T, r60_41_F, r60_41, r60_44, r60_45, r60_48, r60_49, r60_52_T, r60_52_F, r60_52, r60_55, r60_58, r60_61, r60_63, r60_65_T, r60_65_F, r60_65, r60_68, r60_69, r60_72, r60_73, r60_75, r60_77_T, r60_77_F, r60_77, r60_80, r60_81, r60_84, r60_86, r60_88, r60_90_T, r60_90_F, r60_90, r60_93, r60_95, r60_98, r60_99, r60_100, r60_101, r60_105_T, r60_105_F, r60_105, r60_108, r60_110, r60_111, r60_112, r60_113, r60_115, r60_117, r60_118, r60_119, r60_120, r60_123, r60_124, r60_126, r60_129, r60_132, r60_134, r60_137, r60_138, r60_140, r60_142, r60_143, r60_144_T, r60_144_F, r60_144, r60_147, r60_149, r60_150, r60_151, r60_154, r60_156, r60_157, r60_158, r60_159, r60_160, r60_161, r60_163, r60_164, r60_165, r60_167, r60_170, r60_172, xAf_none, xAf_some, xu_app, Nat.reduceAdd, Nat.reduceSub, Nat.reduceEqDiff, Nat.reduceMul, reduceIte, and_self, and_true, true_and, and_false, false_and, true_implies, false_implies, implies_true, not_true_eq_false, not_false_eq_true, Int.reduceToNat, Int.reducePow, Int.reduceNeg, Int.reduceLT, Int.reduceLE, Int.reduceAdd, Int.reduceSub, Int.reduceMul, Int.reduceDiv, Int.reduceMod, Int.reduceEq, xA_1, xA_15, xA_255, xA_511, xA_65535, xA_32768]
      exact key _ he
    · have he : unz (x % 512) = -(x % 512 / 2) - 1 := if_neg hev
      simp (config := {contextual := true, maxSteps := 1000000}) (disch := omega) only [r60_0, r60_1, r60_2, r60_5, r60_6, r60_7_T, r60_7_F, r60_7, r60_10, r60_12, r60_13, r60_14, r60_15, r60_16, r60_19, r60_20, r60_21, r60_22, r60_24, r60_25, r60_29, r60_31_T, r60_31_F, r60_31, r60_34, r60_35, r60_37, r60_39, r60_40, r60_41_T, r60_41_F, r60_41, r60_44, r60_45, r60_48, r60_49, r60_52_T, r60_52_F, r60_52, r60_55, r60_58, r60_61, r60_63, r60_65_T, r60_65_F, r60_65, r60_68, r60_69, r60_72, r60_73, r60_75, r60_77_T, r60_77_F, r60_77, r60_80, r60_81, r60_84, r60_86, r60_88, r60_90_T, r60_90_F, r60_90, r60_93, r60_95, r60_98, r60_99, r60_100, r60_101, r60_105_T, r60_105_F, r60_105, r60_108, r60_110, r60_111, r60_112, r60_113, r60_115, r60_117, r60_118, r60_119, r60_120, r60_123, r60_124, r60_126, r60_129, r60_132, r60_134, r60_137, r60_138, r60_140, r60_142, r60_143, r60_144_T, r60_144_F, r60_144, r60_147, r60_149, r60_150, r60_151, r60_154, r60_156, r60_157, r60_158, r60_159, r60_160, r60_161, r60_163, r60_164, r60_165, r60_167, r60_170, r60_172, xAf_none, xAf_some, xu_app, Nat.reduceAdd, Nat.reduceSub, Nat.reduceEqDiff, Nat.reduceMul, reduceIte, and_self, and_true, true_and, and_false, false_and, true_implies, false_implies, implies_true, not_true_eq_false, not_false_eq_true, Int.reduceToNat, Int.reducePow, Int.reduceNeg, Int.reduceLT, Int.reduceLE, Int.reduceAdd, Int.reduceSub, Int.reduceMul, Int.reduceDiv, Int.reduceMod, Int.reduceEq, xA_1, xA_15, xA_255, xA_511, xA_65535, xA_32768]
      exact key _ he
  have hstart : xT d 60 27 [.ref 14, .int (xI c), .int (xI e), .int (xI (k : Int)), .int (xI m), .int (xI ((0 : Nat) : Int)), .null, .null, .null] [] (hh f a g) Q := by
    refine l_rz hF hfr hfr1 hen hen0 hln hk8 hm0.1 hm0.2 hd 12 f a p 0 (by omega) (by omega) hW fun f1 a1 W1 F1 => ?_
    rw [hzz] at W1 hzl ⊢
    rw [Nat.zero_add]
    by_cases h12 : zz = 12
    · rw [if_pos h12] at W1
      subst h12
      have hbp : bpos (bt F fr en) (S, C, p) c = p + 12 + 9 := by unfold bpos; dsimp only; rw [hzz, if_pos rfl]
      have hgx : bv (bt F fr en) (p + 12) 9 0 = x := by rw [← hx]; unfold bgot; dsimp only; rw [hzz, if_pos rfl]
      rw [hbp] at hend
      simp (config := {contextual := true, maxSteps := 1000000}) (disch := omega) only [r60_0, r60_1, r60_2, r60_5, r60_6, r60_7_T, r60_7_F, r60_7, r60_10, r60_12, r60_13, r60_14, r60_15, r60_16, r60_19, r60_20, r60_21, r60_22, r60_24, r60_25, r60_29, r60_31_T, r60_31_F, r60_31, r60_34, r60_35, r60_37, r60_39, r60_40, r60_41_T, r60_41_F, r60_41, r60_44, r60_45, r60_48, r60_49, r60_52_T, r60_52_F, r60_52, r60_55, r60_58, r60_61, r60_63, r60_65_T, r60_65_F, r60_65, r60_68, r60_69, r60_72, r60_73, r60_75, r60_77_T, r60_77_F, r60_77, r60_80, r60_81, r60_84, r60_86, r60_88, r60_90_T, r60_90_F, r60_90, r60_93, r60_95, r60_98, r60_99, r60_100, r60_101, r60_105_T, r60_105_F, r60_105, r60_108, r60_110, r60_111, r60_112, r60_113, r60_115, r60_117, r60_118, r60_119, r60_120, r60_123, r60_124, r60_126, r60_129, r60_132, r60_134, r60_137, r60_138, r60_140, r60_142, r60_143, r60_144_T, r60_144_F, r60_144, r60_147, r60_149, r60_150, r60_151, r60_154, r60_156, r60_157, r60_158, r60_159, r60_160, r60_161, r60_163, r60_164, r60_165, r60_167, r60_170, r60_172, xAf_none, xAf_some, xu_app, Nat.reduceAdd, Nat.reduceSub, Nat.reduceEqDiff, Nat.reduceMul, reduceIte, and_self, and_true, true_and, and_false, false_and, true_implies, false_implies, implies_true, not_true_eq_false, not_false_eq_true, Int.reduceToNat, Int.reducePow, Int.reduceNeg, Int.reduceLT, Int.reduceLE, Int.reduceAdd, Int.reduceSub, Int.reduceMul, Int.reduceDiv, Int.reduceMod, Int.reduceEq, xA_1, xA_15, xA_255, xA_511, xA_65535, xA_32768]
      have := l_rd (c := c) (e := e) (k := (k : Int)) (z := 12) (w := 1) (g := g) (Q := Q) hF hfr hfr1 hen hen0 hln hm0.1 hm0.2 hd 9 f1 a1 (p + 12) 0 (by omega) (by omega) W1 fun f2 a2 W2 F2 => by rw [hgx]; exact hend f2 a2 _ _ _ W2 (F1.trans F2)
      exact this
    · rw [if_neg h12] at W1
      have hbp : bpos (bt F fr en) (S, C, p) c = p + zz + 1 + k := by unfold bpos; dsimp only; rw [hzz, if_neg h12, hlow]
      have hgx : bv (bt F fr en) (p + zz + 1) k zz = x := by rw [← hx]; unfold bgot; dsimp only; rw [hzz, if_neg h12, hlow]
      rw [hbp] at hend
      have hne : ¬ ((zz : Nat) : Int) = 12 := by omega
      simp (config := {contextual := true, maxSteps := 1000000}) (disch := omega) only [r60_0, r60_1, r60_2, r60_5, r60_6, r60_7_T, r60_7_F, r60_7, r60_10, r60_12, r60_13, r60_14, r60_15, r60_16, r60_19, r60_20, r60_21, r60_22, r60_24, r60_25, r60_29, r60_31_T, r60_31_F, r60_31, r60_34, r60_35, r60_37, r60_39, r60_40, r60_41_T, r60_41_F, r60_41, r60_44, r60_45, r60_48, r60_49, r60_52_T, r60_52_F, r60_52, r60_55, r60_58, r60_61, r60_63, r60_65_T, r60_65_F, r60_65, r60_68, r60_69, r60_72, r60_73, r60_75, r60_77_T, r60_77_F, r60_77, r60_80, r60_81, r60_84, r60_86, r60_88, r60_90_T, r60_90_F, r60_90, r60_93, r60_95, r60_98, r60_99, r60_100, r60_101, r60_105_T, r60_105_F, r60_105, r60_108, r60_110, r60_111, r60_112, r60_113, r60_115, r60_117, r60_118, r60_119, r60_120, r60_123, r60_124, r60_126, r60_129, r60_132, r60_134, r60_137, r60_138, r60_140, r60_142, r60_143, r60_144_T, r60_144_F, r60_144, r60_147, r60_149, r60_150, r60_151, r60_154, r60_156, r60_157, r60_158, r60_159, r60_160, r60_161, r60_163, r60_164, r60_165, r60_167, r60_170, r60_172, xAf_none, xAf_some, xu_app, Nat.reduceAdd, Nat.reduceSub, Nat.reduceEqDiff, Nat.reduceMul, reduceIte, and_self, and_true, true_and, and_false, false_and, true_implies, false_implies, implies_true, not_true_eq_false, not_false_eq_true, Int.reduceToNat, Int.reducePow, Int.reduceNeg, Int.reduceLT, Int.reduceLE, Int.reduceAdd, Int.reduceSub, Int.reduceMul, Int.reduceDiv, Int.reduceMod, Int.reduceEq, xA_1, xA_15, xA_255, xA_511, xA_65535, xA_32768]
      exact l_rd hF hfr hfr1 hen hen0 hln hm0.1 hm0.2 hd k f1 a1 (p + zz + 1) _ (by omega) (by omega) W1 fun f2 a2 W2 F2 => by rw [hgx]; exact hend f2 a2 _ _ _ W2 (F1.trans F2)
  rw [← hTc.1, ← hTc.2] at hlow
  rw [e60]
  by_cases hn : e < 0
  · have hmn : -2 * e - 1 = m := by rw [← hm]; unfold zig; rw [if_pos hn]
    simp (config := {contextual := true, maxSteps := 1000000}) (disch := omega) only [r60_0, r60_1, r60_2, r60_5, r60_6, r60_7_T, r60_7_F, r60_7, r60_10, r60_12, r60_13, r60_14, r60_15, r60_16, r60_19, r60_20, r60_21, r60_22, r60_24, r60_25, r60_29, r60_31_T, r60_31_F, r60_31, r60_34, r60_35, r60_37, r60_39, r60_40, r60_41_T, r60_41_F, r60_41, r60_44, r60_45, r60_48, r60_49, r60_52_T, r60_52_F, r60_52, r60_55, r60_58, r60_61, r60_63, r60_65_T, r60_65_F, r60_65, r60_68, r60_69, r60_72, r60_73, r60_75, r60_77_T, r60_77_F, r60_77, r60_80, r60_81, r60_84, r60_86, r60_88, r60_90_T, r60_90_F, r60_90, r60_93, r60_95, r60_98, r60_99, r60_100, r60_101, r60_105_T, r60_105_F, r60_105, r60_108, r60_110, r60_111, r60_112, r60_113, r60_115, r60_117, r60_118, r60_119, r60_120, r60_123, r60_124, r60_126, r60_129, r60_132, r60_134, r60_137, r60_138, r60_140, r60_142, r60_143, r60_144_T, r60_144_F, r60_144, r60_147, r60_149, r60_150, r60_151, r60_154, r60_156, r60_157, r60_158, r60_159, r60_160, r60_161, r60_163, r60_164, r60_165, r60_167, r60_170, r60_172, s_low, hlow, hmn, xAf_none, xAf_some, xu_app, Nat.reduceAdd, Nat.reduceSub, Nat.reduceEqDiff, Nat.reduceMul, reduceIte, and_self, and_true, true_and, and_false, false_and, true_implies, false_implies, implies_true, not_true_eq_false, not_false_eq_true, Int.reduceToNat, Int.reducePow, Int.reduceNeg, Int.reduceLT, Int.reduceLE, Int.reduceAdd, Int.reduceSub, Int.reduceMul, Int.reduceDiv, Int.reduceMod, Int.reduceEq, xA_1, xA_15, xA_255, xA_511, xA_65535, xA_32768]
    exact hstart
  · have hmn : 2 * e = m := by rw [← hm]; unfold zig; rw [if_neg hn]
    simp (config := {contextual := true, maxSteps := 1000000}) (disch := omega) only [r60_0, r60_1, r60_2, r60_5, r60_6, r60_7_T, r60_7_F, r60_7, r60_10, r60_12, r60_13, r60_14, r60_15, r60_16, r60_19, r60_20, r60_21, r60_22, r60_24, r60_25, r60_29, r60_31_T, r60_31_F, r60_31, r60_34, r60_35, r60_37, r60_39, r60_40, r60_41_T, r60_41_F, r60_41, r60_44, r60_45, r60_48, r60_49, r60_52_T, r60_52_F, r60_52, r60_55, r60_58, r60_61, r60_63, r60_65_T, r60_65_F, r60_65, r60_68, r60_69, r60_72, r60_73, r60_75, r60_77_T, r60_77_F, r60_77, r60_80, r60_81, r60_84, r60_86, r60_88, r60_90_T, r60_90_F, r60_90, r60_93, r60_95, r60_98, r60_99, r60_100, r60_101, r60_105_T, r60_105_F, r60_105, r60_108, r60_110, r60_111, r60_112, r60_113, r60_115, r60_117, r60_118, r60_119, r60_120, r60_123, r60_124, r60_126, r60_129, r60_132, r60_134, r60_137, r60_138, r60_140, r60_142, r60_143, r60_144_T, r60_144_F, r60_144, r60_147, r60_149, r60_150, r60_151, r60_154, r60_156, r60_157, r60_158, r60_159, r60_160, r60_161, r60_163, r60_164, r60_165, r60_167, r60_170, r60_172, s_low, hlow, hmn, xAf_none, xAf_some, xu_app, Nat.reduceAdd, Nat.reduceSub, Nat.reduceEqDiff, Nat.reduceMul, reduceIte, and_self, and_true, true_and, and_false, false_and, true_implies, false_implies, implies_true, not_true_eq_false, not_false_eq_true, Int.reduceToNat, Int.reducePow, Int.reduceNeg, Int.reduceLT, Int.reduceLE, Int.reduceAdd, Int.reduceSub, Int.reduceMul, Int.reduceDiv, Int.reduceMod, Int.reduceEq, xA_1, xA_15, xA_255, xA_511, xA_65535, xA_32768]
    exact hstart
end S63
