/-! MODE 1: THE MODEL READS -/
abbrev nS : Type := qS × Int
def rmO (s : Nat → Int) (τ : nS) (c : Int) : Int := if rdB τ.1 (c * 19) = 1 then 0 else snd1 c (rdX s τ.1 c).1
def rmN (s : Nat → Int) (τ : nS) (c : Int) : nS := ((rdX s τ.1 c).2, if rdB τ.1 (c * 19) = 1 then τ.2 else spN c (rdX s τ.1 c).1 τ.2)
/-- what lies above is less than the range -/
def qA (τ : qS) : Prop := 0 ≤ τ.2.2.1 ∧ τ.2.2.1 < τ.2.1
theorem rdS_A {s : Nat → Int} (hs : ∀ i, 0 ≤ s i ∧ s i ≤ 255) {τ : qS} (h : qI τ) (hA : qA τ) (pl : Int) : qA (rdS s τ pl) := by
  have hh := rdH_bd h pl
  obtain ⟨h1, h2, h3, h4, h5⟩ := h
  obtain ⟨a1, a2⟩ := hA
  have hq := hs τ.2.2.2
  unfold rdS
  by_cases hb : τ.2.1 - rdH τ pl ≤ τ.2.2.1
  · have hb1 : rdB τ pl = 1 := if_pos hb
    simp only [hb1, if_true]
    split
    · unfold qA; dsimp only; rw [bm_id (by omega) (by omega)]; omega
    · unfold qA; dsimp only; omega
  · have hb1 : rdB τ pl = 0 := if_neg hb
    simp only [hb1, show ¬ (0 : Int) = 1 by omega, if_false]
    split
    · unfold qA; dsimp only; rw [bm_id (by omega) (by omega)]; omega
    · unfold qA; dsimp only; omega
/-- the model reads ranges -/
def xN1 (F : Int → Int) (fr en : Int) (f : Nat → Nat → Int) (a : Nat → Int → Int) (τ : nS) : Prop :=
  a 24 = F ∧ f 21 32 = fr + (τ.1.2.2.2 : Nat) ∧ f 21 33 = en ∧ f 21 31 = τ.1.2.1 ∧ f 21 34 = τ.1.2.2.1 ∧ f 21 35 = τ.2 ∧ (τ.2 = 0 ∨ τ.2 = 1) ∧ (∀ j, 0 ≤ j → j < 2394 → a 30 j = τ.1.1 j) ∧ qI τ.1 ∧ qA τ.1
theorem sb_bd {F : Int → Int} (hF : ∀ j, 0 ≤ F j ∧ F j ≤ 255) (fr en : Int) (i : Nat) : 0 ≤ sb F fr en i ∧ sb F fr en i ≤ 255 := sB_bd hF en _
section S67
variable {d : Nat} {Q : xm_H × Outcome → Prop} {f : Nat → Nat → Int} {a : Nat → Int → Int} {g : xG} {x b c e m z w p : Int} {F : Int → Int} {fr en : Int} {τ : nS}
theorem p_nb {q : Nat} (h24 : a 24 = F) (h32 : f 21 32 = fr + (q : Int)) (h33 : f 21 33 = en) (hfr : 0 ≤ fr) (hfr1 : fr ≤ 1200) (hen0 : 0 ≤ en) (hen : en ≤ 1200) (hq : q ≤ 10000) (hk : Q (hh (xu f 21 32 (fr + ((q + 1 : Nat) : Int))) a g, .returned (some (.int (xI (sb F fr en q)))))) : xTC d 117 [.ref 21] (hh f a g) Q := by
  have hpn : fr + ((q + 1 : Nat) : Int) = fr + (q : Int) + 1 := by omega
  rw [hpn] at hk
  rw [e117]
  by_cases hc : fr + (q : Int) < en
  · have hbt : sb F fr en q = F (fr + (q : Int)) := if_pos hc
    have h24' : a 24 (fr + (q : Int)) = F (fr + (q : Int)) := by rw [h24]
    rw [hbt] at hk
    simp (config := {contextual := true, maxSteps := 1000000}) (disch := omega) only [r117_0, r117_1, r117_4, r117_5, r117_8_T, r117_8_F, r117_8, r117_11, r117_12, r117_15, r117_16, r117_19, r117_20, r117_23, r117_24, r117_25, r117_26, r117_27, r117_30, r117_31, r117_32, r117_35, r117_36, h32, h33, h24', xAf_none, xAf_some, xu_app, Nat.reduceAdd, Nat.reduceSub, Nat.reduceEqDiff, Nat.reduceMul, reduceIte, and_self, and_true, true_and, and_false, false_and, true_implies, false_implies, implies_true, not_true_eq_false, not_false_eq_true, Int.reduceToNat, Int.reducePow, Int.reduceNeg, Int.reduceLT, Int.reduceLE, Int.reduceAdd, Int.reduceSub, Int.reduceMul, Int.reduceDiv, Int.reduceMod, Int.reduceEq, xA_1, xA_15, xA_255, xA_511, xA_65535, xA_32768]
    exact hk
  · have hbt : sb F fr en q = 0 := if_neg hc
    rw [hbt] at hk
    simp (config := {contextual := true, maxSteps := 1000000}) (disch := omega) only [r117_0, r117_1, r117_4, r117_5, r117_8_T, r117_8_F, r117_8, r117_11, r117_12, r117_15, r117_16, r117_19, r117_20, r117_23, r117_24, r117_25, r117_26, r117_27, r117_30, r117_31, r117_32, r117_35, r117_36, h32, h33, xAf_none, xAf_some, xu_app, Nat.reduceAdd, Nat.reduceSub, Nat.reduceEqDiff, Nat.reduceMul, reduceIte, and_self, and_true, true_and, and_false, false_and, true_implies, false_implies, implies_true, not_true_eq_false, not_false_eq_true, Int.reduceToNat, Int.reducePow, Int.reduceNeg, Int.reduceLT, Int.reduceLE, Int.reduceAdd, Int.reduceSub, Int.reduceMul, Int.reduceDiv, Int.reduceMod, Int.reduceEq, xA_1, xA_15, xA_255, xA_511, xA_65535, xA_32768]
    exact hk
set_option maxRecDepth 100000 in
theorem p_mdBit (hF : ∀ j, 0 ≤ F j ∧ F j ≤ 255) (hfr : 0 ≤ fr) (hfr1 : fr ≤ 1200) (hen0 : 0 ≤ en) (hen : en ≤ 1200) {τ : qS} {sp : Int} (h : xN1 F fr en f a (τ, sp)) (hcx : f 21 26 = c) (c0 : 0 ≤ c) (c1 : c < 126) (p0 : 0 ≤ p) (p1 : p < 19) (hq : τ.2.2.2 ≤ 9000) (hd : 2 ≤ d) (hk : ∀ f' a', xN1 F fr en f' a' (rdS (sb F fr en) τ (c * 19 + p), sp) → xFe f a f' a' → Q (hh f' a' g, .returned (some (.int (xI (rdB τ (c * 19 + p))))))) : xTC d 123 [.ref 21, .int (xI p)] (hh f a g) Q := by
  obtain ⟨x, hx⟩ : ∃ x, c * 19 + p = x := ⟨_, rfl⟩
  rw [hx] at hk
  have hI' := rdS_I (s := sb F fr en) h.2.2.2.2.2.2.2.2.1 x
  have hA' := rdS_A (sb_bd hF fr en) h.2.2.2.2.2.2.2.2.1 h.2.2.2.2.2.2.2.2.2 x
  have hH := rdH_bd h.2.2.2.2.2.2.2.2.1 x
  dsimp only at hI' hA' hH
  obtain ⟨T, R, A, q⟩ := τ
  obtain ⟨h24, h32, h33, h31, h34, h35, hsp, hT, hI, hA⟩ := h
  have hx' : 19 * c + p = x := by omega
  have x0 : 0 ≤ x := by omega
  have x1 : x < 2394 := by omega
  have hs := hI.2.2.1 x
  have hTx := hT x x0 x1
  obtain ⟨hr1, hr2, -, hA0, hA1⟩ := hI
  obtain ⟨hA2, hA3⟩ := hA
  dsimp only at h32 h31 h34 h35 hsp hTx hr1 hr2 hA0 hA1 hA2 hA3 hs hT hq
  have hmul : R * T x ≤ 65280 * 241 := Int.mul_le_mul hr2 hs.2 (by omega) (by omega)
  have hmul0 : 0 ≤ R * T x := Int.mul_nonneg (by omega) (by omega)
  unfold rdS at hk hI' hA'
  unfold rdB at hk hI' hA'
  simp only [show rdH (T, R, A, q) x = R * T x / 256 from rfl] at hk hI' hA' hH
  obtain ⟨H, eH⟩ : ∃ H, R * T x / 256 = H := ⟨_, rfl⟩
  rw [eH] at hk hI' hA' hH
  have hTset : ∀ (v : Int) (j : Int), 0 ≤ j → j < 2394 → xw a 30 x v 30 j = vset T x v j := fun v j j0 j1 => by
    rw [xw_app]; unfold vset
    by_cases hj : j = x
    · simp [hj]
    · simp [hj, hT j j0 j1]
  -- behind the adapting
  have hback : ∀ (A1 R1 v bit : Int) (l2 : Value), 15 ≤ R1 → R1 ≤ 65280 → 0 ≤ A1 → A1 < R1 → (bit = 0 ∨ bit = 1) →
      (∀ f' a', xN1 F fr en f' a' (if R1 < 256 then (vset T x v, R1 * 256, bm (A1 * 256 + sb F fr en q), q + 1) else (vset T x v, R1, A1, q), sp) → xFe f a f' a' → Q (hh f' a' g, .returned (some (.int (xI bit))))) → qI (if R1 < 256 then (vset T x v, R1 * 256, bm (A1 * 256 + sb F fr en q), q + 1) else (vset T x v, R1, A1, q)) → qA (if R1 < 256 then (vset T x v, R1 * 256, bm (A1 * 256 + sb F fr en q), q + 1) else (vset T x v, R1, A1, q)) →
      xT d 123 77 [.ref 21, .int (xI p), l2, .int (xI bit)] [] (hh (xu (xu f 21 34 A1) 21 31 R1) (xw a 30 x v) g) Q := fun A1 R1 v bit l2 r0 r1 a0 a1 hbit hk1 hI1 hA1 => by
    rw [r123_77]
    by_cases hc : R1 < 256
    · rw [if_pos hc] at hk1 hI1 hA1
      have hsb := sb_bd hF fr en q
      simp (config := {contextual := true, maxSteps := 1000000}) (disch := omega) only [r123_0, r123_1, r123_2, r123_5, r123_6, r123_7, r123_10, r123_11, r123_14, r123_15, r123_16_T, r123_16_F, r123_16, r123_19, r123_20, r123_23, r123_24, r123_25, r123_26, r123_27, r123_28_T, r123_28_F, r123_28, r123_31, r123_32, r123_35, r123_36, r123_39, r123_40, r123_41, r123_42, r123_45, r123_46, r123_49, r123_52, r123_53, r123_54, r123_55_T, r123_55_F, r123_55, r123_58, r123_59, r123_62, r123_63, r123_66, r123_67, r123_68, r123_71, r123_72, r123_73, r123_74, r123_78, r123_81, r123_84_T, r123_84_F, r123_84, r123_87, r123_88, r123_89, r123_92, r123_95, r123_96, r123_99, r123_100, r123_101, r123_104, r123_107, r123_108, r123_109, r123_112, r123_113, r123_116, r123_119, r123_120, xAf_none, xAf_some, xu_app, Nat.reduceAdd, Nat.reduceSub, Nat.reduceEqDiff, Nat.reduceMul, reduceIte, and_self, and_true, true_and, and_false, false_and, true_implies, false_implies, implies_true, not_true_eq_false, not_false_eq_true, Int.reduceToNat, Int.reducePow, Int.reduceNeg, Int.reduceLT, Int.reduceLE, Int.reduceAdd, Int.reduceSub, Int.reduceMul, Int.reduceDiv, Int.reduceMod, Int.reduceEq, xA_1, xA_15, xA_255, xA_511, xA_65535, xA_32768]
      refine p_nb (q := q) (F := F) (fr := fr) (en := en) (by rw [xw_ne _ (by decide)]; exact h24) h32 h33 hfr hfr1 hen0 hen (by omega) ?_
      simp (config := {contextual := true, maxSteps := 1000000}) (disch := omega) only [r123_0, r123_1, r123_2, r123_5, r123_6, r123_7, r123_10, r123_11, r123_14, r123_15, r123_16_T, r123_16_F, r123_16, r123_19, r123_20, r123_23, r123_24, r123_25, r123_26, r123_27, r123_28_T, r123_28_F, r123_28, r123_31, r123_32, r123_35, r123_36, r123_39, r123_40, r123_41, r123_42, r123_45, r123_46, r123_49, r123_52, r123_53, r123_54, r123_55_T, r123_55_F, r123_55, r123_58, r123_59, r123_62, r123_63, r123_66, r123_67, r123_68, r123_71, r123_72, r123_73, r123_74, r123_78, r123_81, r123_84_T, r123_84_F, r123_84, r123_87, r123_88, r123_89, r123_92, r123_95, r123_96, r123_99, r123_100, r123_101, r123_104, r123_107, r123_108, r123_109, r123_112, r123_113, r123_116, r123_119, r123_120, xAf_none, xAf_some, xu_app, Nat.reduceAdd, Nat.reduceSub, Nat.reduceEqDiff, Nat.reduceMul, reduceIte, and_self, and_true, true_and, and_false, false_and, true_implies, false_implies, implies_true, not_true_eq_false, not_false_eq_true, Int.reduceToNat, Int.reducePow, Int.reduceNeg, Int.reduceLT, Int.reduceLE, Int.reduceAdd, Int.reduceSub, Int.reduceMul, Int.reduceDiv, Int.reduceMod, Int.reduceEq, xA_1, xA_15, xA_255, xA_511, xA_65535, xA_32768]
      rw [r123_77]
      simp (config := {contextual := true, maxSteps := 1000000}) (disch := omega) only [r123_0, r123_1, r123_2, r123_5, r123_6, r123_7, r123_10, r123_11, r123_14, r123_15, r123_16_T, r123_16_F, r123_16, r123_19, r123_20, r123_23, r123_24, r123_25, r123_26, r123_27, r123_28_T, r123_28_F, r123_28, r123_31, r123_32, r123_35, r123_36, r123_39, r123_40, r123_41, r123_42, r123_45, r123_46, r123_49, r123_52, r123_53, r123_54, r123_55_T, r123_55_F, r123_55, r123_58, r123_59, r123_62, r123_63, r123_66, r123_67, r123_68, r123_71, r123_72, r123_73, r123_74, r123_78, r123_81, r123_84_T, r123_84_F, r123_84, r123_87, r123_88, r123_89, r123_92, r123_95, r123_96, r123_99, r123_100, r123_101, r123_104, r123_107, r123_108, r123_109, r123_112, r123_113, r123_116, r123_119, r123_120, xAf_none, xAf_some, xu_app, Nat.reduceAdd, Nat.reduceSub, Nat.reduceEqDiff, Nat.reduceMul, reduceIte, and_self, and_true, true_and, and_false, false_and, true_implies, false_implies, implies_true, not_true_eq_false, not_false_eq_true, Int.reduceToNat, Int.reducePow, Int.reduceNeg, Int.reduceLT, Int.reduceLE, Int.reduceAdd, Int.reduceSub, Int.reduceMul, Int.reduceDiv, Int.reduceMod, Int.reduceEq, xA_1, xA_15, xA_255, xA_511, xA_65535, xA_32768]
      have hbm : A1 * 256 + sb F fr en q = bm (A1 * 256 + sb F fr en q) := (bm_id (by omega) (by omega)).symm
      refine hk1 _ _ ⟨?_, rfl, h33, rfl, hbm, h35, hsp, hTset v, hI1, hA1⟩ ⟨fun i hi => ?_, fun k k1 k2 k3 k4 k5 k6 => ?_, fun i i1 i2 i3 i4 => xw_ne _ i3⟩
      · rw [xw_ne _ (by decide)]; exact h24
      · simp only [xu_ne _ hi]
      · simp only [xu_app]; simp [k3, k4, k5]
    · rw [if_neg hc] at hk1 hI1 hA1
      simp (config := {contextual := true, maxSteps := 1000000}) (disch := omega) only [r123_0, r123_1, r123_2, r123_5, r123_6, r123_7, r123_10, r123_11, r123_14, r123_15, r123_16_T, r123_16_F, r123_16, r123_19, r123_20, r123_23, r123_24, r123_25, r123_26, r123_27, r123_28_T, r123_28_F, r123_28, r123_31, r123_32, r123_35, r123_36, r123_39, r123_40, r123_41, r123_42, r123_45, r123_46, r123_49, r123_52, r123_53, r123_54, r123_55_T, r123_55_F, r123_55, r123_58, r123_59, r123_62, r123_63, r123_66, r123_67, r123_68, r123_71, r123_72, r123_73, r123_74, r123_78, r123_81, r123_84_T, r123_84_F, r123_84, r123_87, r123_88, r123_89, r123_92, r123_95, r123_96, r123_99, r123_100, r123_101, r123_104, r123_107, r123_108, r123_109, r123_112, r123_113, r123_116, r123_119, r123_120, xAf_none, xAf_some, xu_app, Nat.reduceAdd, Nat.reduceSub, Nat.reduceEqDiff, Nat.reduceMul, reduceIte, and_self, and_true, true_and, and_false, false_and, true_implies, false_implies, implies_true, not_true_eq_false, not_false_eq_true, Int.reduceToNat, Int.reducePow, Int.reduceNeg, Int.reduceLT, Int.reduceLE, Int.reduceAdd, Int.reduceSub, Int.reduceMul, Int.reduceDiv, Int.reduceMod, Int.reduceEq, xA_1, xA_15, xA_255, xA_511, xA_65535, xA_32768]
      refine hk1 _ _ ⟨?_, h32, h33, rfl, rfl, h35, hsp, hTset v, hI1, hA1⟩ ⟨fun i hi => ?_, fun k k1 k2 k3 k4 k5 k6 => ?_, fun i i1 i2 i3 i4 => xw_ne _ i3⟩
      · rw [xw_ne _ (by decide)]; exact h24
      · simp only [xu_ne _ hi]
      · simp only [xu_app]; simp [k3, k5]
  rw [e123]
  by_cases hc : R - H ≤ A
  · simp only [hc, if_true] at hk hI' hA'
    have hAe : A - R + H = A - (R - H) := by omega
    simp (config := {contextual := true, maxSteps := 1000000}) (disch := omega) only [r123_0, r123_1, r123_2, r123_5, r123_6, r123_7, r123_10, r123_11, r123_14, r123_15, r123_16_T, r123_16_F, r123_16, r123_19, r123_20, r123_23, r123_24, r123_25, r123_26, r123_27, r123_28_T, r123_28_F, r123_28, r123_31, r123_32, r123_35, r123_36, r123_39, r123_40, r123_41, r123_42, r123_45, r123_46, r123_49, r123_52, r123_53, r123_54, r123_55_T, r123_55_F, r123_55, r123_58, r123_59, r123_62, r123_63, r123_66, r123_67, r123_68, r123_71, r123_72, r123_73, r123_74, r123_78, r123_81, r123_84_T, r123_84_F, r123_84, r123_87, r123_88, r123_89, r123_92, r123_95, r123_96, r123_99, r123_100, r123_101, r123_104, r123_107, r123_108, r123_109, r123_112, r123_113, r123_116, r123_119, r123_120, r112_0, r112_1, r112_4, r112_5, r112_8, r112_10, r112_11, r112_14, r112_15, r112_16, r112_17, r112_18, r112_19, r112_21, r112_22, e112, r111_0, r111_2, r111_3, r111_6, r111_7, r111_8, r111_9, r111_10, r111_11, r111_14, r111_15, r111_16, r111_18, r111_19, r111_22, r111_23, r111_24, r111_25_T, r111_25_F, r111_25, r111_28, r111_30, r111_33, r111_35, r111_36, r111_37, r111_38, r111_39, r111_42, r111_44, r111_46, r111_47, r111_48, r111_49, r111_50, e111, h31, h34, hcx, hx', hTx, eH, hAe, xAf_none, xAf_some, xu_app, Nat.reduceAdd, Nat.reduceSub, Nat.reduceEqDiff, Nat.reduceMul, reduceIte, and_self, and_true, true_and, and_false, false_and, true_implies, false_implies, implies_true, not_true_eq_false, not_false_eq_true, Int.reduceToNat, Int.reducePow, Int.reduceNeg, Int.reduceLT, Int.reduceLE, Int.reduceAdd, Int.reduceSub, Int.reduceMul, Int.reduceDiv, Int.reduceMod, Int.reduceEq, xA_1, xA_15, xA_255, xA_511, xA_65535, xA_32768]
    exact hback _ _ _ 1 _ (by omega) (by omega) (by omega) (by omega) (.inr rfl) hk hI' hA'
  · simp only [hc, if_false, show ¬ (0 : Int) = 1 by omega] at hk hI' hA'
    simp (config := {contextual := true, maxSteps := 1000000}) (disch := omega) only [r123_0, r123_1, r123_2, r123_5, r123_6, r123_7, r123_10, r123_11, r123_14, r123_15, r123_16_T, r123_16_F, r123_16, r123_19, r123_20, r123_23, r123_24, r123_25, r123_26, r123_27, r123_28_T, r123_28_F, r123_28, r123_31, r123_32, r123_35, r123_36, r123_39, r123_40, r123_41, r123_42, r123_45, r123_46, r123_49, r123_52, r123_53, r123_54, r123_55_T, r123_55_F, r123_55, r123_58, r123_59, r123_62, r123_63, r123_66, r123_67, r123_68, r123_71, r123_72, r123_73, r123_74, r123_78, r123_81, r123_84_T, r123_84_F, r123_84, r123_87, r123_88, r123_89, r123_92, r123_95, r123_96, r123_99, r123_100, r123_101, r123_104, r123_107, r123_108, r123_109, r123_112, r123_113, r123_116, r123_119, r123_120, r112_0, r112_1, r112_4, r112_5, r112_8, r112_10, r112_11, r112_14, r112_15, r112_16, r112_17, r112_18, r112_19, r112_21, r112_22, e112, r111_0, r111_2, r111_3, r111_6, r111_7, r111_8, r111_9, r111_10, r111_11, r111_14, r111_15, r111_16, r111_18, r111_19, r111_22, r111_23, r111_24, r111_25_T, r111_25_F, r111_25, r111_28, r111_30, r111_33, r111_35, r111_36, r111_37, r111_38, r111_39, r111_42, r111_44, r111_46, r111_47, r111_48, r111_49, r111_50, e111, h31, h34, hcx, hx', hTx, eH, xAf_none, xAf_some, xu_app, Nat.reduceAdd, Nat.reduceSub, Nat.reduceEqDiff, Nat.reduceMul, reduceIte, and_self, and_true, true_and, and_false, false_and, true_implies, false_implies, implies_true, not_true_eq_false, not_false_eq_true, Int.reduceToNat, Int.reducePow, Int.reduceNeg, Int.reduceLT, Int.reduceLE, Int.reduceAdd, Int.reduceSub, Int.reduceMul, Int.reduceDiv, Int.reduceMod, Int.reduceEq, xA_1, xA_15, xA_255, xA_511, xA_65535, xA_32768]
    exact hback _ _ _ 0 _ (by omega) (by omega) (by omega) (by omega) (.inl rfl) hk hI' hA'
set_option maxRecDepth 100000 in
theorem l_mN (hF : ∀ j, 0 ≤ F j ∧ F j ≤ 255) (hfr : 0 ≤ fr) (hfr1 : fr ≤ 1200) (hen0 : 0 ≤ en) (hen : en ≤ 1200) {sp : Int} (c0 : 0 ≤ c) (c1 : c < 126) {b1 : Int32} {l3 l4 : Value} (hd : 3 ≤ d) (r : Nat) : ∀ (τ : qS) (f : Nat → Nat → Int) (a : Nat → Int → Int) (i : Nat), i + r = 8 → τ.2.2.2 + r ≤ 9000 → f 21 26 = c → xN1 F fr en f a (τ, sp) →
    (∀ f' a', xN1 F fr en f' a' ((rdN (sb F fr en) (c * 19) r i τ).2, sp) → xFe f a f' a' → xT d 124 36 [.ref 21, .int b1, .int (xI (((rdN (sb F fr en) (c * 19) r i τ).1 : Nat) : Int)), l3, l4] [] (hh f' a' g) Q) →
    xT d 124 13 [.ref 21, .int b1, .int (xI (i : Int)), l3, l4] [] (hh f a g) Q := by
  induction r with
  | zero =>
    intro τ f a i hi hq hcx hW hk
    have hi' : i = 8 := by omega
    subst hi'
    rw [r124_13]
    simp (config := {contextual := true, maxSteps := 1000000}) (disch := omega) only [r124_0, r124_1, r124_2, r124_5, r124_6_T, r124_6_F, r124_6, r124_9, r124_10, r124_11, r124_12, r124_14, r124_16_T, r124_16_F, r124_16, r124_19, r124_20, r124_21, r124_22, r124_23, r124_26, r124_27_T, r124_27_F, r124_27, r124_30, r124_33, r124_37, r124_38, r124_39, r124_40, r124_41, r124_45_T, r124_45_F, r124_45, r124_48, r124_49, r124_50, r124_51, r124_52, r124_54, r124_56, r124_57, r124_60, r124_61, r124_62, r124_65, r124_68, r124_69, r124_70, r124_72, r124_75, r124_76_T, r124_76_F, r124_76, r124_79, r124_80, r124_81, r124_84, r124_85, r124_86, r124_89, xAf_none, xAf_some, xu_app, Nat.reduceAdd, Nat.reduceSub, Nat.reduceEqDiff, Nat.reduceMul, reduceIte, and_self, and_true, true_and, and_false, false_and, true_implies, false_implies, implies_true, not_true_eq_false, not_false_eq_true, Int.reduceToNat, Int.reducePow, Int.reduceNeg, Int.reduceLT, Int.reduceLE, Int.reduceAdd, Int.reduceSub, Int.reduceMul, Int.reduceDiv, Int.reduceMod, Int.reduceEq, xA_1, xA_15, xA_255, xA_511, xA_65535, xA_32768]
    exact hk _ _ hW (xFe.refl _ _)
  | succ r ih =>
    intro τ f a i hi hq hcx hW hk
    have hq1 := rdS_q (sb F fr en) τ (c * 19 + 1 + i)
    rw [r124_13]
    simp (config := {contextual := true, maxSteps := 1000000}) (disch := omega) only [r124_0, r124_1, r124_2, r124_5, r124_6_T, r124_6_F, r124_6, r124_9, r124_10, r124_11, r124_12, r124_14, r124_16_T, r124_16_F, r124_16, r124_19, r124_20, r124_21, r124_22, r124_23, r124_26, r124_27_T, r124_27_F, r124_27, r124_30, r124_33, r124_37, r124_38, r124_39, r124_40, r124_41, r124_45_T, r124_45_F, r124_45, r124_48, r124_49, r124_50, r124_51, r124_52, r124_54, r124_56, r124_57, r124_60, r124_61, r124_62, r124_65, r124_68, r124_69, r124_70, r124_72, r124_75, r124_76_T, r124_76_F, r124_76, r124_79, r124_80, r124_81, r124_84, r124_85, r124_86, r124_89, xAf_none, xAf_some, xu_app, Nat.reduceAdd, Nat.reduceSub, Nat.reduceEqDiff, Nat.reduceMul, reduceIte, and_self, and_true, true_and, and_false, false_and, true_implies, false_implies, implies_true, not_true_eq_false, not_false_eq_true, Int.reduceToNat, Int.reducePow, Int.reduceNeg, Int.reduceLT, Int.reduceLE, Int.reduceAdd, Int.reduceSub, Int.reduceMul, Int.reduceDiv, Int.reduceMod, Int.reduceEq, xA_1, xA_15, xA_255, xA_511, xA_65535, xA_32768]
    refine p_mdBit hF hfr hfr1 hen0 hen hW hcx c0 c1 (by omega) (by omega) (by omega) (by omega) fun f1 a1 W1 F1 => ?_
    have ei : c * 19 + (1 + (i : Int)) = c * 19 + 1 + i := by omega
    rw [ei] at W1 ⊢
    unfold rdN at hk
    have hcx1 : f1 21 26 = c := by rw [F1.2.1 26 (by decide) (by decide) (by decide) (by decide) (by decide) (by decide)]; exact hcx
    rcases rdB_bd τ (c * 19 + 1 + i) with h0 | h1
    · rw [h0]
      simp only [h0, show ¬ (0 : Int) = 1 by decide, if_false] at hk
      simp (config := {contextual := true, maxSteps := 1000000}) (disch := omega) only [r124_0, r124_1, r124_2, r124_5, r124_6_T, r124_6_F, r124_6, r124_9, r124_10, r124_11, r124_12, r124_14, r124_16_T, r124_16_F, r124_16, r124_19, r124_20, r124_21, r124_22, r124_23, r124_26, r124_27_T, r124_27_F, r124_27, r124_30, r124_33, r124_37, r124_38, r124_39, r124_40, r124_41, r124_45_T, r124_45_F, r124_45, r124_48, r124_49, r124_50, r124_51, r124_52, r124_54, r124_56, r124_57, r124_60, r124_61, r124_62, r124_65, r124_68, r124_69, r124_70, r124_72, r124_75, r124_76_T, r124_76_F, r124_76, r124_79, r124_80, r124_81, r124_84, r124_85, r124_86, r124_89, xAf_none, xAf_some, xu_app, Nat.reduceAdd, Nat.reduceSub, Nat.reduceEqDiff, Nat.reduceMul, reduceIte, and_self, and_true, true_and, and_false, false_and, true_implies, false_implies, implies_true, not_true_eq_false, not_false_eq_true, Int.reduceToNat, Int.reducePow, Int.reduceNeg, Int.reduceLT, Int.reduceLE, Int.reduceAdd, Int.reduceSub, Int.reduceMul, Int.reduceDiv, Int.reduceMod, Int.reduceEq, xA_1, xA_15, xA_255, xA_511, xA_65535, xA_32768]
      exact hk f1 a1 W1 F1
    · rw [h1]
      simp only [h1, if_true] at hk
      simp (config := {contextual := true, maxSteps := 1000000}) (disch := omega) only [r124_0, r124_1, r124_2, r124_5, r124_6_T, r124_6_F, r124_6, r124_9, r124_10, r124_11, r124_12, r124_14, r124_16_T, r124_16_F, r124_16, r124_19, r124_20, r124_21, r124_22, r124_23, r124_26, r124_27_T, r124_27_F, r124_27, r124_30, r124_33, r124_37, r124_38, r124_39, r124_40, r124_41, r124_45_T, r124_45_F, r124_45, r124_48, r124_49, r124_50, r124_51, r124_52, r124_54, r124_56, r124_57, r124_60, r124_61, r124_62, r124_65, r124_68, r124_69, r124_70, r124_72, r124_75, r124_76_T, r124_76_F, r124_76, r124_79, r124_80, r124_81, r124_84, r124_85, r124_86, r124_89, xAf_none, xAf_some, xu_app, Nat.reduceAdd, Nat.reduceSub, Nat.reduceEqDiff, Nat.reduceMul, reduceIte, and_self, and_true, true_and, and_false, false_and, true_implies, false_implies, implies_true, not_true_eq_false, not_false_eq_true, Int.reduceToNat, Int.reducePow, Int.reduceNeg, Int.reduceLT, Int.reduceLE, Int.reduceAdd, Int.reduceSub, Int.reduceMul, Int.reduceDiv, Int.reduceMod, Int.reduceEq, xA_1, xA_15, xA_255, xA_511, xA_65535, xA_32768]
      have hnx : ((i : Int) + 1) = ((i + 1 : Nat) : Int) := by omega
      rw [hnx]
      exact ih _ f1 a1 (i + 1) (by omega) (by omega) hcx1 W1 fun f2 a2 W2 F2 => hk f2 a2 W2 (F1.trans F2)
set_option maxRecDepth 100000 in
theorem l_mG (hF : ∀ j, 0 ≤ F j ∧ F j ≤ 255) (hfr : 0 ≤ fr) (hfr1 : fr ≤ 1200) (hen0 : 0 ≤ en) (hen : en ≤ 1200) {sp : Int} (c0 : 0 ≤ c) (c1 : c < 126) {b1 b2 : Int32} (hd : 3 ≤ d) (r : Nat) : ∀ (τ : qS) (f : Nat → Nat → Int) (a : Nat → Int → Int) (x : Int), r ≤ 8 → τ.2.2.2 + r ≤ 9000 → f 21 26 = c → xN1 F fr en f a (τ, sp) →
    (∀ f' a', xN1 F fr en f' a' ((rdG (sb F fr en) (c * 19) r x τ).2, sp) → xFe f a f' a' → xT d 124 68 [.ref 21, .int b1, .int b2, .int (xI (rdG (sb F fr en) (c * 19) r x τ).1), .int (xI (-1))] [] (hh f' a' g) Q) →
    xT d 124 43 [.ref 21, .int b1, .int b2, .int (xI x), .int (xI ((r : Int) - 1))] [] (hh f a g) Q := by
  induction r with
  | zero =>
    intro τ f a x hr hq hcx hW hk
    rw [r124_43]
    have e0 : ((0 : Nat) : Int) - 1 = -1 := by omega
    rw [e0]
    simp (config := {contextual := true, maxSteps := 1000000}) (disch := omega) only [r124_0, r124_1, r124_2, r124_5, r124_6_T, r124_6_F, r124_6, r124_9, r124_10, r124_11, r124_12, r124_14, r124_16_T, r124_16_F, r124_16, r124_19, r124_20, r124_21, r124_22, r124_23, r124_26, r124_27_T, r124_27_F, r124_27, r124_30, r124_33, r124_36, r124_37, r124_38, r124_39, r124_40, r124_41, r124_45_T, r124_45_F, r124_45, r124_48, r124_49, r124_50, r124_51, r124_52, r124_54, r124_56, r124_57, r124_60, r124_61, r124_62, r124_65, r124_69, r124_70, r124_72, r124_75, r124_76_T, r124_76_F, r124_76, r124_79, r124_80, r124_81, r124_84, r124_85, r124_86, r124_89, xAf_none, xAf_some, xu_app, Nat.reduceAdd, Nat.reduceSub, Nat.reduceEqDiff, Nat.reduceMul, reduceIte, and_self, and_true, true_and, and_false, false_and, true_implies, false_implies, implies_true, not_true_eq_false, not_false_eq_true, Int.reduceToNat, Int.reducePow, Int.reduceNeg, Int.reduceLT, Int.reduceLE, Int.reduceAdd, Int.reduceSub, Int.reduceMul, Int.reduceDiv, Int.reduceMod, Int.reduceEq, xA_1, xA_15, xA_255, xA_511, xA_65535, xA_32768]
    exact hk _ _ hW (xFe.refl _ _)
  | succ r ih =>
    intro τ f a x hr hq hcx hW hk
    have hq1 := rdS_q (sb F fr en) τ (c * 19 + 10 + r)
    rw [r124_43]
    have e0 : ((r + 1 : Nat) : Int) - 1 = r := by omega
    rw [e0]
    simp (config := {contextual := true, maxSteps := 1000000}) (disch := omega) only [r124_0, r124_1, r124_2, r124_5, r124_6_T, r124_6_F, r124_6, r124_9, r124_10, r124_11, r124_12, r124_14, r124_16_T, r124_16_F, r124_16, r124_19, r124_20, r124_21, r124_22, r124_23, r124_26, r124_27_T, r124_27_F, r124_27, r124_30, r124_33, r124_36, r124_37, r124_38, r124_39, r124_40, r124_41, r124_45_T, r124_45_F, r124_45, r124_48, r124_49, r124_50, r124_51, r124_52, r124_54, r124_56, r124_57, r124_60, r124_61, r124_62, r124_65, r124_69, r124_70, r124_72, r124_75, r124_76_T, r124_76_F, r124_76, r124_79, r124_80, r124_81, r124_84, r124_85, r124_86, r124_89, xAf_none, xAf_some, xu_app, Nat.reduceAdd, Nat.reduceSub, Nat.reduceEqDiff, Nat.reduceMul, reduceIte, and_self, and_true, true_and, and_false, false_and, true_implies, false_implies, implies_true, not_true_eq_false, not_false_eq_true, Int.reduceToNat, Int.reducePow, Int.reduceNeg, Int.reduceLT, Int.reduceLE, Int.reduceAdd, Int.reduceSub, Int.reduceMul, Int.reduceDiv, Int.reduceMod, Int.reduceEq, xA_1, xA_15, xA_255, xA_511, xA_65535, xA_32768]
    refine p_mdBit hF hfr hfr1 hen0 hen hW hcx c0 c1 (by omega) (by omega) (by omega) (by omega) fun f1 a1 W1 F1 => ?_
    have ei : c * 19 + (10 + (r : Int)) = c * 19 + 10 + r := by omega
    rw [ei] at W1 ⊢
    have hcx1 : f1 21 26 = c := by rw [F1.2.1 26 (by decide) (by decide) (by decide) (by decide) (by decide) (by decide)]; exact hcx
    simp (config := {contextual := true, maxSteps := 1000000}) (disch := omega) only [r124_0, r124_1, r124_2, r124_5, r124_6_T, r124_6_F, r124_6, r124_9, r124_10, r124_11, r124_12, r124_14, r124_16_T, r124_16_F, r124_16, r124_19, r124_20, r124_21, r124_22, r124_23, r124_26, r124_27_T, r124_27_F, r124_27, r124_30, r124_33, r124_36, r124_37, r124_38, r124_39, r124_40, r124_41, r124_45_T, r124_45_F, r124_45, r124_48, r124_49, r124_50, r124_51, r124_52, r124_54, r124_56, r124_57, r124_60, r124_61, r124_62, r124_65, r124_69, r124_70, r124_72, r124_75, r124_76_T, r124_76_F, r124_76, r124_79, r124_80, r124_81, r124_84, r124_85, r124_86, r124_89, xAf_none, xAf_some, xu_app, Nat.reduceAdd, Nat.reduceSub, Nat.reduceEqDiff, Nat.reduceMul, reduceIte, and_self, and_true, true_and, and_false, false_and, true_implies, false_implies, implies_true, not_true_eq_false, not_false_eq_true, Int.reduceToNat, Int.reducePow, Int.reduceNeg, Int.reduceLT, Int.reduceLE, Int.reduceAdd, Int.reduceSub, Int.reduceMul, Int.reduceDiv, Int.reduceMod, Int.reduceEq, xA_1, xA_15, xA_255, xA_511, xA_65535, xA_32768]
    rw [Int.mul_comm 2 x]
    exact ih _ f1 a1 _ (by omega) (by omega) hcx1 W1 fun f2 a2 W2 F2 => hk _ _ W2 (F1.trans F2)
set_option maxRecDepth 100000 in
theorem p_mdr (hF : ∀ j, 0 ≤ F j ∧ F j ≤ 255) (hfr : 0 ≤ fr) (hfr1 : fr ≤ 1200) (hen0 : 0 ≤ en) (hen : en ≤ 1200) (hm : m = 2 * hmC c) (hN : xN1 F fr en f a τ) (hq : τ.1.2.2.2 ≤ 3000) (hcx : f 21 26 = c) (c0 : 0 ≤ c) (c1 : c < 126) (hd : 3 ≤ d) (hk : ∀ f' a', xN1 F fr en f' a' (rmN (sb F fr en) τ c) → xFe f a f' a' → Q (hh f' a' g, .returned (some (.int (xI (rmO (sb F fr en) τ c)))))) : xTC d 124 [.ref 21, .int (xI m)] (hh f a g) Q := by
  obtain ⟨τ, sp⟩ := τ
  dsimp only at hq
  have hq1 := rdS_q (sb F fr en) τ (c * 19)
  have hcxF : ∀ {f1 a1}, xFe f a f1 a1 → f1 21 26 = c := fun F1 => by rw [F1.2.1 26 (by decide) (by decide) (by decide) (by decide) (by decide) (by decide)]; exact hcx
  rw [e124]
  simp (config := {contextual := true, maxSteps := 1000000}) (disch := omega) only [r124_0, r124_1, r124_2, r124_5, r124_6_T, r124_6_F, r124_6, r124_9, r124_10, r124_11, r124_12, r124_14, r124_16_T, r124_16_F, r124_16, r124_19, r124_20, r124_21, r124_22, r124_23, r124_26, r124_27_T, r124_27_F, r124_27, r124_30, r124_33, r124_36, r124_37, r124_38, r124_39, r124_40, r124_41, r124_45_T, r124_45_F, r124_45, r124_48, r124_49, r124_50, r124_51, r124_52, r124_54, r124_56, r124_57, r124_60, r124_61, r124_62, r124_65, r124_68, r124_69, r124_70, r124_72, r124_75, r124_76_T, r124_76_F, r124_76, r124_79, r124_80, r124_81, r124_84, r124_85, r124_86, r124_89, xAf_none, xAf_some, xu_app, Nat.reduceAdd, Nat.reduceSub, Nat.reduceEqDiff, Nat.reduceMul, reduceIte, and_self, and_true, true_and, and_false, false_and, true_implies, false_implies, implies_true, not_true_eq_false, not_false_eq_true, Int.reduceToNat, Int.reducePow, Int.reduceNeg, Int.reduceLT, Int.reduceLE, Int.reduceAdd, Int.reduceSub, Int.reduceMul, Int.reduceDiv, Int.reduceMod, Int.reduceEq, xA_1, xA_15, xA_255, xA_511, xA_65535, xA_32768]
  refine p_mdBit hF hfr hfr1 hen0 hen hN hcx c0 c1 (by omega) (by omega) (by omega) (by omega) fun f1 a1 W1 F1 => ?_
  rw [Int.add_zero] at W1 ⊢
  unfold rmO rmN at hk
  dsimp only at hk
  rcases rdB_bd τ (c * 19) with h0 | h1
  · rw [h0]
    have hXb := rdX_bd (sb F fr en) τ c
    unfold rdX at hk hXb
    simp only [h0, show ¬ (0 : Int) = 1 by decide, if_false] at hk hXb
    obtain ⟨τ1, ht1⟩ : ∃ τ1, rdS (sb F fr en) τ (c * 19) = τ1 := ⟨_, rfl⟩
    rw [ht1] at hk hXb W1 hq1
    have hNq := rdN_q (sb F fr en) (c * 19) 8 0 τ1
    simp (config := {contextual := true, maxSteps := 1000000}) (disch := omega) only [r124_0, r124_1, r124_2, r124_5, r124_6_T, r124_6_F, r124_6, r124_9, r124_10, r124_11, r124_12, r124_14, r124_16_T, r124_16_F, r124_16, r124_19, r124_20, r124_21, r124_22, r124_23, r124_26, r124_27_T, r124_27_F, r124_27, r124_30, r124_33, r124_36, r124_37, r124_38, r124_39, r124_40, r124_41, r124_45_T, r124_45_F, r124_45, r124_48, r124_49, r124_50, r124_51, r124_52, r124_54, r124_56, r124_57, r124_60, r124_61, r124_62, r124_65, r124_68, r124_69, r124_70, r124_72, r124_75, r124_76_T, r124_76_F, r124_76, r124_79, r124_80, r124_81, r124_84, r124_85, r124_86, r124_89, xAf_none, xAf_some, xu_app, Nat.reduceAdd, Nat.reduceSub, Nat.reduceEqDiff, Nat.reduceMul, reduceIte, and_self, and_true, true_and, and_false, false_and, true_implies, false_implies, implies_true, not_true_eq_false, not_false_eq_true, Int.reduceToNat, Int.reducePow, Int.reduceNeg, Int.reduceLT, Int.reduceLE, Int.reduceAdd, Int.reduceSub, Int.reduceMul, Int.reduceDiv, Int.reduceMod, Int.reduceEq, xA_1, xA_15, xA_255, xA_511, xA_65535, xA_32768]
    have go := l_mN (d := d) (g := g) (Q := Q) (b1 := xI m) (l3 := .null) (l4 := .null) hF hfr hfr1 hen0 hen c0 c1 hd 8 τ1 f1 a1 0 (by omega) (by omega) (hcxF F1) W1 fun f2 a2 W2 F2 => ?_
    · exact go
    · obtain ⟨r1, hr1⟩ : ∃ r1, rdN (sb F fr en) (c * 19) 8 0 τ1 = r1 := ⟨_, rfl⟩
      rw [hr1] at hk hXb W2 hNq ⊢
      simp (config := {contextual := true, maxSteps := 1000000}) (disch := omega) only [r124_0, r124_1, r124_2, r124_5, r124_6_T, r124_6_F, r124_6, r124_9, r124_10, r124_11, r124_12, r124_14, r124_16_T, r124_16_F, r124_16, r124_19, r124_20, r124_21, r124_22, r124_23, r124_26, r124_27_T, r124_27_F, r124_27, r124_30, r124_33, r124_36, r124_37, r124_38, r124_39, r124_40, r124_41, r124_45_T, r124_45_F, r124_45, r124_48, r124_49, r124_50, r124_51, r124_52, r124_54, r124_56, r124_57, r124_60, r124_61, r124_62, r124_65, r124_68, r124_69, r124_70, r124_72, r124_75, r124_76_T, r124_76_F, r124_76, r124_79, r124_80, r124_81, r124_84, r124_85, r124_86, r124_89, xAf_none, xAf_some, xu_app, Nat.reduceAdd, Nat.reduceSub, Nat.reduceEqDiff, Nat.reduceMul, reduceIte, and_self, and_true, true_and, and_false, false_and, true_implies, false_implies, implies_true, not_true_eq_false, not_false_eq_true, Int.reduceToNat, Int.reducePow, Int.reduceNeg, Int.reduceLT, Int.reduceLE, Int.reduceAdd, Int.reduceSub, Int.reduceMul, Int.reduceDiv, Int.reduceMod, Int.reduceEq, xA_1, xA_15, xA_255, xA_511, xA_65535, xA_32768]
      have hG := rdG_q (sb F fr en) (c * 19) r1.1 1 r1.2
      refine l_mG hF hfr hfr1 hen0 hen c0 c1 hd r1.1 r1.2 f2 a2 1 (by omega) (by omega) (hcxF (F1.trans F2)) W2 fun f3 a3 W3 F3 => ?_
      obtain ⟨r2, hr2⟩ : ∃ r2, rdG (sb F fr en) (c * 19) r1.1 1 r1.2 = r2 := ⟨_, rfl⟩
      rw [hr2] at hk hXb W3 hG ⊢
      have FF := (F1.trans F2).trans F3
      simp (config := {contextual := true, maxSteps := 1000000}) (disch := omega) only [r124_0, r124_1, r124_2, r124_5, r124_6_T, r124_6_F, r124_6, r124_9, r124_10, r124_11, r124_12, r124_14, r124_16_T, r124_16_F, r124_16, r124_19, r124_20, r124_21, r124_22, r124_23, r124_26, r124_27_T, r124_27_F, r124_27, r124_30, r124_33, r124_36, r124_37, r124_38, r124_39, r124_40, r124_41, r124_45_T, r124_45_F, r124_45, r124_48, r124_49, r124_50, r124_51, r124_52, r124_54, r124_56, r124_57, r124_60, r124_61, r124_62, r124_65, r124_68, r124_69, r124_70, r124_72, r124_75, r124_76_T, r124_76_F, r124_76, r124_79, r124_80, r124_81, r124_84, r124_85, r124_86, r124_89, xAf_none, xAf_some, xu_app, Nat.reduceAdd, Nat.reduceSub, Nat.reduceEqDiff, Nat.reduceMul, reduceIte, and_self, and_true, true_and, and_false, false_and, true_implies, false_implies, implies_true, not_true_eq_false, not_false_eq_true, Int.reduceToNat, Int.reducePow, Int.reduceNeg, Int.reduceLT, Int.reduceLE, Int.reduceAdd, Int.reduceSub, Int.reduceMul, Int.reduceDiv, Int.reduceMod, Int.reduceEq, xA_1, xA_15, xA_255, xA_511, xA_65535, xA_32768]
      refine p_mdBit hF hfr hfr1 hen0 hen W3 (hcxF FF) c0 c1 (by omega) (by omega) (by omega) (by omega) fun f4 a4 W4 F4 => ?_
      have hso : ∀ o : Int, (if rdB r2.2 (c * 19 + 18) = 1 then -r2.1 else r2.1) = o → xTC (d - 1) 121 [.ref 21, .int (xI o), .int (xI m)] (hh f4 a4 g) (xAf d 124 86 [.ref 21, .int (xI m), .int (xI (r1.1 : Int)), .int (xI r2.1), .int (xI (-1))] [] Q) := fun o ho => by
        rw [ho] at hk hXb
        refine p_sound hm (by omega) (by omega) W4.2.2.2.2.2.1 W4.2.2.2.2.2.2.1 ?_
        dsimp only
        simp (config := {contextual := true, maxSteps := 1000000}) (disch := omega) only [r124_0, r124_1, r124_2, r124_5, r124_6_T, r124_6_F, r124_6, r124_9, r124_10, r124_11, r124_12, r124_14, r124_16_T, r124_16_F, r124_16, r124_19, r124_20, r124_21, r124_22, r124_23, r124_26, r124_27_T, r124_27_F, r124_27, r124_30, r124_33, r124_36, r124_37, r124_38, r124_39, r124_40, r124_41, r124_45_T, r124_45_F, r124_45, r124_48, r124_49, r124_50, r124_51, r124_52, r124_54, r124_56, r124_57, r124_60, r124_61, r124_62, r124_65, r124_68, r124_69, r124_70, r124_72, r124_75, r124_76_T, r124_76_F, r124_76, r124_79, r124_80, r124_81, r124_84, r124_85, r124_86, r124_89, xAf_none, xAf_some, xu_app, Nat.reduceAdd, Nat.reduceSub, Nat.reduceEqDiff, Nat.reduceMul, reduceIte, and_self, and_true, true_and, and_false, false_and, true_implies, false_implies, implies_true, not_true_eq_false, not_false_eq_true, Int.reduceToNat, Int.reducePow, Int.reduceNeg, Int.reduceLT, Int.reduceLE, Int.reduceAdd, Int.reduceSub, Int.reduceMul, Int.reduceDiv, Int.reduceMod, Int.reduceEq, xA_1, xA_15, xA_255, xA_511, xA_65535, xA_32768]
        obtain ⟨w1, w2, w3, w4, w5, w6, w7, w8, w9, w10⟩ := W4
        refine hk _ _ ⟨w1, w2, w3, w4, w5, rfl, ?_, w8, w9, w10⟩ ((FF.trans F4).trans ⟨fun i hi => xu_ne _ hi, fun k k1 k2 k3 k4 k5 k6 => by rw [xu_app, if_neg (by omega)], fun _ _ _ _ _ => rfl⟩)
        show spN c o sp = 0 ∨ spN c o sp = 1; unfold spN; split <;> omega
      rcases rdB_bd r2.2 (c * 19 + 18) with s0 | s1
      · rw [s0] at hso ⊢
        rw [if_neg (by decide)] at hso
        simp (config := {contextual := true, maxSteps := 1000000}) (disch := omega) only [r124_0, r124_1, r124_2, r124_5, r124_6_T, r124_6_F, r124_6, r124_9, r124_10, r124_11, r124_12, r124_14, r124_16_T, r124_16_F, r124_16, r124_19, r124_20, r124_21, r124_22, r124_23, r124_26, r124_27_T, r124_27_F, r124_27, r124_30, r124_33, r124_36, r124_37, r124_38, r124_39, r124_40, r124_41, r124_45_T, r124_45_F, r124_45, r124_48, r124_49, r124_50, r124_51, r124_52, r124_54, r124_56, r124_57, r124_60, r124_61, r124_62, r124_65, r124_68, r124_69, r124_70, r124_72, r124_75, r124_76_T, r124_76_F, r124_76, r124_79, r124_80, r124_81, r124_84, r124_85, r124_86, r124_89, xAf_none, xAf_some, xu_app, Nat.reduceAdd, Nat.reduceSub, Nat.reduceEqDiff, Nat.reduceMul, reduceIte, and_self, and_true, true_and, and_false, false_and, true_implies, false_implies, implies_true, not_true_eq_false, not_false_eq_true, Int.reduceToNat, Int.reducePow, Int.reduceNeg, Int.reduceLT, Int.reduceLE, Int.reduceAdd, Int.reduceSub, Int.reduceMul, Int.reduceDiv, Int.reduceMod, Int.reduceEq, xA_1, xA_15, xA_255, xA_511, xA_65535, xA_32768]
        exact hso _ rfl
      · rw [s1] at hso ⊢
        rw [if_pos rfl] at hso
        simp (config := {contextual := true, maxSteps := 1000000}) (disch := omega) only [r124_0, r124_1, r124_2, r124_5, r124_6_T, r124_6_F, r124_6, r124_9, r124_10, r124_11, r124_12, r124_14, r124_16_T, r124_16_F, r124_16, r124_19, r124_20, r124_21, r124_22, r124_23, r124_26, r124_27_T, r124_27_F, r124_27, r124_30, r124_33, r124_36, r124_37, r124_38, r124_39, r124_40, r124_41, r124_45_T, r124_45_F, r124_45, r124_48, r124_49, r124_50, r124_51, r124_52, r124_54, r124_56, r124_57, r124_60, r124_61, r124_62, r124_65, r124_68, r124_69, r124_70, r124_72, r124_75, r124_76_T, r124_76_F, r124_76, r124_79, r124_80, r124_81, r124_84, r124_85, r124_86, r124_89, xAf_none, xAf_some, xu_app, Nat.reduceAdd, Nat.reduceSub, Nat.reduceEqDiff, Nat.reduceMul, reduceIte, and_self, and_true, true_and, and_false, false_and, true_implies, false_implies, implies_true, not_true_eq_false, not_false_eq_true, Int.reduceToNat, Int.reducePow, Int.reduceNeg, Int.reduceLT, Int.reduceLE, Int.reduceAdd, Int.reduceSub, Int.reduceMul, Int.reduceDiv, Int.reduceMod, Int.reduceEq, xA_1, xA_15, xA_255, xA_511, xA_65535, xA_32768]
        exact hso _ rfl
  · rw [h1]
    unfold rdX at hk
    simp only [h1, if_true] at hk
    simp (config := {contextual := true, maxSteps := 1000000}) (disch := omega) only [r124_0, r124_1, r124_2, r124_5, r124_6_T, r124_6_F, r124_6, r124_9, r124_10, r124_11, r124_12, r124_14, r124_16_T, r124_16_F, r124_16, r124_19, r124_20, r124_21, r124_22, r124_23, r124_26, r124_27_T, r124_27_F, r124_27, r124_30, r124_33, r124_36, r124_37, r124_38, r124_39, r124_40, r124_41, r124_45_T, r124_45_F, r124_45, r124_48, r124_49, r124_50, r124_51, r124_52, r124_54, r124_56, r124_57, r124_60, r124_61, r124_62, r124_65, r124_68, r124_69, r124_70, r124_72, r124_75, r124_76_T, r124_76_F, r124_76, r124_79, r124_80, r124_81, r124_84, r124_85, r124_86, r124_89, xAf_none, xAf_some, xu_app, Nat.reduceAdd, Nat.reduceSub, Nat.reduceEqDiff, Nat.reduceMul, reduceIte, and_self, and_true, true_and, and_false, false_and, true_implies, false_implies, implies_true, not_true_eq_false, not_false_eq_true, Int.reduceToNat, Int.reducePow, Int.reduceNeg, Int.reduceLT, Int.reduceLE, Int.reduceAdd, Int.reduceSub, Int.reduceMul, Int.reduceDiv, Int.reduceMod, Int.reduceEq, xA_1, xA_15, xA_255, xA_511, xA_65535, xA_32768]
    exact hk f1 a1 W1 F1
end S67
