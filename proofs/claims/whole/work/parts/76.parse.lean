/-! ELEMENTS: what both do, and the class -/
def szB (F : Int → Int) (pl : Int) : Int := if F pl < 128 then pl + 2 else pl + 1
def szN (F : Int → Int) (pl : Int) : Int := if F pl < 128 then (F pl - 64) * 256 + F (pl + 1) else F pl - 128
abbrev szOK (F : Int → Int) (en pl : Int) : Prop := pl < en ∧ 64 ≤ F pl ∧ ¬ F pl = 255 ∧ szB F pl ≤ en ∧ szN F pl ≤ en - szB F pl
/-- empty elements are passed: the place, and whether it fails there -/
def psF (F : Int → Int) (en : Int) : Nat → Int → Int × Int
  | 0, pl => (pl, 0)
  | n + 1, pl => if pl < en ∧ F pl = 236 then (if szOK F en (pl + 1) then psF F en n (szB F (pl + 1) + szN F (pl + 1)) else (pl + 1, 1)) else (pl, 0)
def pas (F : Int → Int) (en pl : Int) : Int × Int := psF F en 1201 pl
/-- into an element: whether it fails, the place, the end, the place of the size -/
def enF (F : Int → Int) (id en pl : Int) : Int × Int × Int × Int :=
  if (pas F en pl).2 = 1 then (1, (pas F en pl).1, 0, 0) else if ¬ ((pas F en pl).1 < en ∧ F (pas F en pl).1 = id) then (1, (pas F en pl).1, 0, 0)
  else if szOK F en ((pas F en pl).1 + 1) then (0, szB F ((pas F en pl).1 + 1), szB F ((pas F en pl).1 + 1) + szN F ((pas F en pl).1 + 1), (pas F en pl).1 + 1) else (1, (pas F en pl).1 + 1, 0, 0)
def nuV (F : Int → Int) (n pl : Int) : Int := if n = 1 then F pl else F pl * 256 + F (pl + 1)
/-- a number: whether it fails, the place, the number -/
def nuF (F : Int → Int) (id n lo hi en pl : Int) : Int × Int × Int :=
  if (enF F id en pl).1 = 1 then (1, (enF F id en pl).2.1, 0) else if ¬ (enF F id en pl).2.2.1 - (enF F id en pl).2.1 = n then (1, (enF F id en pl).2.2.2, 0)
  else if lo ≤ nuV F n (enF F id en pl).2.1 ∧ nuV F n (enF F id en pl).2.1 ≤ hi then (0, (enF F id en pl).2.2.1, nuV F n (enF F id en pl).2.1) else (1, (enF F id en pl).2.1, 0)
def lvF (F : Int → Int) (en pl : Int) : Int × Int := if (pas F en pl).2 = 1 then ((pas F en pl).1, 1) else if (pas F en pl).1 = en then ((pas F en pl).1, 0) else ((pas F en pl).1, 1)
section P76
variable {F : Int → Int} {en pl id n lo hi : Int}
theorem sz_bd (hF : ∀ j, 0 ≤ F j ∧ F j ≤ 255) (h : szOK F en pl) : pl < szB F pl ∧ szB F pl ≤ pl + 2 ∧ szB F pl ≤ szB F pl + szN F pl ∧ szB F pl + szN F pl ≤ en ∧ 0 ≤ szN F pl := by
  obtain ⟨h1, h2, h3, h4, h5⟩ := h
  have b1 := hF pl
  have b2 := hF (pl + 1)
  unfold szB szN at *
  split at h4 <;> omega
theorem psF_bd (hF : ∀ j, 0 ≤ F j ∧ F j ≤ 255) (k : Nat) : ∀ pl, pl ≤ en → pl ≤ (psF F en k pl).1 ∧ (psF F en k pl).1 ≤ en ∧ ((psF F en k pl).2 = 0 ∨ (psF F en k pl).2 = 1) := by
  induction k with
  | zero => intro pl h; exact ⟨Int.le_refl _, h, .inl rfl⟩
  | succ k ih =>
    intro pl h
    unfold psF
    by_cases c1 : pl < en ∧ F pl = 236
    · rw [if_pos c1]
      by_cases c2 : szOK F en (pl + 1)
      · rw [if_pos c2]
        have hb := sz_bd hF c2
        have := ih (szB F (pl + 1) + szN F (pl + 1)) (by omega)
        exact ⟨by omega, this.2⟩
      · rw [if_neg c2]; dsimp only; omega
    · rw [if_neg c1]; dsimp only; omega
theorem pas_bd (hF : ∀ j, 0 ≤ F j ∧ F j ≤ 255) (h : pl ≤ en) : pl ≤ (pas F en pl).1 ∧ (pas F en pl).1 ≤ en ∧ ((pas F en pl).2 = 0 ∨ (pas F en pl).2 = 1) := psF_bd hF 1201 pl h
theorem enF_bd (hF : ∀ j, 0 ≤ F j ∧ F j ≤ 255) (h : pl ≤ en) : pl ≤ (enF F id en pl).2.1 ∧ (enF F id en pl).2.1 ≤ en ∧ ((enF F id en pl).1 = 1 ∨ (enF F id en pl).1 = 0 ∧ (enF F id en pl).2.1 ≤ (enF F id en pl).2.2.1 ∧ (enF F id en pl).2.2.1 ≤ en ∧ pl ≤ (enF F id en pl).2.2.2 ∧ (enF F id en pl).2.2.2 ≤ en) := by
  have hp := pas_bd hF h
  unfold enF
  by_cases c0 : (pas F en pl).2 = 1
  · rw [if_pos c0]; dsimp only; omega
  · rw [if_neg c0]
    by_cases c1 : (pas F en pl).1 < en ∧ F (pas F en pl).1 = id
    · rw [if_neg (fun z => z c1)]
      by_cases c2 : szOK F en ((pas F en pl).1 + 1)
      · rw [if_pos c2]
        have hb := sz_bd hF c2
        dsimp only; omega
      · rw [if_neg c2]; dsimp only; omega
    · rw [if_pos c1]; dsimp only; omega
theorem nuF_bd (hF : ∀ j, 0 ≤ F j ∧ F j ≤ 255) (h : pl ≤ en) : pl ≤ (nuF F id n lo hi en pl).2.1 ∧ (nuF F id n lo hi en pl).2.1 ≤ en ∧ ((nuF F id n lo hi en pl).1 = 1 ∨ (nuF F id n lo hi en pl).1 = 0 ∧ lo ≤ (nuF F id n lo hi en pl).2.2 ∧ (nuF F id n lo hi en pl).2.2 ≤ hi ∧ (nuF F id n lo hi en pl).2.1 = (enF F id en pl).2.1 + n ∧ (nuF F id n lo hi en pl).2.2 = nuV F n (enF F id en pl).2.1) := by
  have he := enF_bd (id := id) hF h
  unfold nuF
  by_cases c0 : (enF F id en pl).1 = 1
  · rw [if_pos c0]; dsimp only; omega
  · rw [if_neg c0]
    have he' := he.2.2.resolve_left c0
    by_cases c1 : (enF F id en pl).2.2.1 - (enF F id en pl).2.1 = n
    · rw [if_neg (fun z => z c1)]
      by_cases c2 : lo ≤ nuV F n (enF F id en pl).2.1 ∧ nuV F n (enF F id en pl).2.1 ≤ hi
      · rw [if_pos c2]; dsimp only; omega
      · rw [if_neg c2]; dsimp only; omega
    · rw [if_pos c1]; dsimp only; omega
theorem lvF_bd (hF : ∀ j, 0 ≤ F j ∧ F j ≤ 255) (h : pl ≤ en) : pl ≤ (lvF F en pl).1 ∧ (lvF F en pl).1 ≤ en ∧ ((lvF F en pl).2 = 1 ∨ (lvF F en pl).2 = 0 ∧ (lvF F en pl).1 = en) := by
  have hp := pas_bd hF h
  unfold lvF
  by_cases c0 : (pas F en pl).2 = 1
  · rw [if_pos c0]; dsimp only; omega
  · rw [if_neg c0]
    by_cases c1 : (pas F en pl).1 = en
    · rw [if_pos c1]; dsimp only; omega
    · rw [if_neg c1]; dsimp only; omega
end P76
/-- the reader alone has changed, in place, fault, place of the size -/
def xFq (f f' : Nat → Nat → Int) : Prop := (∀ i, i ≠ 20 → f' i = f i) ∧ (∀ k, k ≠ 6 → k ≠ 7 → k ≠ 9 → f' 20 k = f 20 k)
theorem xFq.refl (f : Nat → Nat → Int) : xFq f f := ⟨fun _ _ => rfl, fun _ _ _ _ => rfl⟩
theorem xFq.trans {f f' f'' : Nat → Nat → Int} (h : xFq f f') (h' : xFq f' f'') : xFq f f'' := ⟨fun i hi => (h'.1 i hi).trans (h.1 i hi), fun k k1 k2 k3 => (h'.2 k k1 k2 k3).trans (h.2 k k1 k2 k3)⟩
theorem xFq.u {f : Nat → Nat → Int} {k : Nat} {v : Int} (hk : k = 6 ∨ k = 7 ∨ k = 9) : xFq f (xu f 20 k v) := ⟨fun i hi => xu_ne _ hi, fun k' k1 k2 k3 => by rw [xu_app, if_neg (by omega)]⟩
section S76
variable {d : Nat} {Q : xm_H × Outcome → Prop} {g : xG} {f : Nat → Nat → Int} {a : Nat → Int → Int} {F : Int → Int} {en pl id n lo hi : Int}
set_option maxRecDepth 100000 in
theorem p_size (hF : ∀ j, 0 ≤ F j ∧ F j ≤ 255) (h9 : a 9 = F) (hen : en ≤ f 8 0) (hln : f 8 0 ≤ 1200) (h6 : f 20 6 = pl) (h7 : f 20 7 = -1) (p0 : 0 ≤ pl) (p1 : pl ≤ en) (hd : 2 ≤ d)
    (hok : szOK F en pl → Q (hh (xu (xu f 20 9 pl) 20 6 (szB F pl)) a g, .returned (some (.int (xI (szB F pl + szN F pl))))))
    (hno : ¬ szOK F en pl → Q (hh (xu (xu f 20 9 pl) 20 7 pl) a g, .returned (some (.int (xI pl))))) : xTC d 84 [.ref 20, .int (xI en)] (hh f a g) Q := by
  have e9 : ∀ j, a 9 j = F j := fun j => by rw [h9]
  have A : ∀ (k : Int), 0 ≤ k ∧ k < f 8 0 → ∀ (d : Nat) (Q : xm_H × Outcome → Prop), xTC d 49 [.ref 8, .int (xI k)] (hh (xu f 20 9 pl) a g) Q ↔ Q (hh (xu f 20 9 pl) a g, .returned (some (.int (xI (F k))))) := fun k hk d Q => by
    have hk' : 0 ≤ k ∧ k < xu f 20 9 pl 8 0 := hk
    rw [s_at8 (f := xu f 20 9 pl) (by show 0 ≤ f 8 0; omega) hln (by omega) (by omega), e9]
    exact ⟨fun z => z.1 hk', fun z => ⟨fun _ => z, fun z' => absurd hk' z'⟩⟩
  have B : ∀ (k : Int), 0 ≤ k → k ≤ 5000 → ¬ (0 ≤ k ∧ k < f 8 0) → ∀ (d : Nat) (Q : xm_H × Outcome → Prop), xTC d 49 [.ref 8, .int (xI k)] (hh (xu f 20 9 pl) a g) Q ↔ Q (hh (xu f 20 9 pl) a g, .returned (some (.int (xI (-1))))) := fun k k0 k1 hk d Q => by
    have hk' : ¬ (0 ≤ k ∧ k < xu f 20 9 pl 8 0) := hk
    rw [s_at8 (f := xu f 20 9 pl) (by show 0 ≤ f 8 0; omega) hln (by omega) (by omega)]
    exact ⟨fun z => z.2 hk', fun z => ⟨fun z' => absurd z' hk', fun _ => z⟩⟩
  have C : ∀ (d : Nat) (x : Int) (Q : xm_H × Outcome → Prop), xTC d 94 [.ref 20, .int (xI x)] (hh (xu f 20 9 pl) a g) Q ↔ Q (hh (xu (xu f 20 9 pl) 20 7 x) a g, .returned none) := fun d x Q => s_fail0 (f := xu f 20 9 pl) h7
  rw [e84]
  by_cases c1 : pl < en
  · have b1 := hF pl
    have b2 := hF (pl + 1)
    have hin : 0 ≤ pl ∧ pl < f 8 0 := by omega
    by_cases c2 : F pl < 128
    · have hB : szB F pl = pl + 2 := if_pos c2
      have hN : szN F pl = (F pl - 64) * 256 + F (pl + 1) := if_pos c2
      by_cases c3 : pl + 2 ≤ en
      · have hin2 : 0 ≤ pl + 1 ∧ pl + 1 < f 8 0 := by omega
        have H2 := A _ hin2
        by_cases c4 : 64 ≤ F pl
        · by_cases c5 : (F pl - 64) * 256 + F (pl + 1) ≤ en - (pl + 2)
          · have hs : szOK F en pl := ⟨c1, c4, by omega, by omega, by rw [hB, hN]; exact c5⟩
            have := hok hs
            rw [hB, hN] at this
            simp (config := {contextual := true, maxSteps := 1000000}) (disch := omega) only [r84_0, r84_1, r84_2, r84_5, r84_8, r84_9, r84_12, r84_13_T, r84_13_F, r84_13, r84_16, r84_17, r84_20, r84_21, r84_24, r84_27, r84_30, r84_31, r84_32, r84_33, r84_36, r84_37, r84_38, r84_39, r84_42, r84_43, r84_44, r84_46, r84_47, r84_50_T, r84_50_F, r84_50, r84_53, r84_54, r84_56, r84_57, r84_60, r84_61, r84_62, r84_65, r84_66, r84_69, r84_70, r84_71, r84_74, r84_75, r84_76, r84_77, r84_80, r84_81, r84_82, r84_84, r84_85, r84_87_T, r84_87_F, r84_87, r84_90, r84_91, r84_94_T, r84_94_F, r84_94, r84_97, r84_99, r84_100_T, r84_100_F, r84_100, r84_103, r84_104, r84_105, r84_107, r84_108_T, r84_108_F, r84_108, r84_111, r84_112, r84_113, r84_116, r84_119, r84_120, r84_123, r84_124, r84_125, r84_127, r84_130, r84_132, r84_133, r84_134, h6, A _ hin, A _ hin2, xAf_none, xAf_some, xu_app, Nat.reduceAdd, Nat.reduceSub, Nat.reduceEqDiff, Nat.reduceMul, reduceIte, and_self, and_true, true_and, and_false, false_and, true_implies, false_implies, implies_true, not_true_eq_false, not_false_eq_true, Int.reduceToNat, Int.reducePow, Int.reduceNeg, Int.reduceLT, Int.reduceLE, Int.reduceAdd, Int.reduceSub, Int.reduceMul, Int.reduceDiv, Int.reduceMod, Int.reduceEq, xA_1, xA_15, xA_255, xA_511, xA_65535, xA_32768]
            exact this
          · have hs : ¬ szOK F en pl := fun z => c5 (by have := z.2.2.2.2; rw [hB, hN] at this; exact this)
            simp (config := {contextual := true, maxSteps := 1000000}) (disch := omega) only [r84_0, r84_1, r84_2, r84_5, r84_8, r84_9, r84_12, r84_13_T, r84_13_F, r84_13, r84_16, r84_17, r84_20, r84_21, r84_24, r84_27, r84_30, r84_31, r84_32, r84_33, r84_36, r84_37, r84_38, r84_39, r84_42, r84_43, r84_44, r84_46, r84_47, r84_50_T, r84_50_F, r84_50, r84_53, r84_54, r84_56, r84_57, r84_60, r84_61, r84_62, r84_65, r84_66, r84_69, r84_70, r84_71, r84_74, r84_75, r84_76, r84_77, r84_80, r84_81, r84_82, r84_84, r84_85, r84_87_T, r84_87_F, r84_87, r84_90, r84_91, r84_94_T, r84_94_F, r84_94, r84_97, r84_99, r84_100_T, r84_100_F, r84_100, r84_103, r84_104, r84_105, r84_107, r84_108_T, r84_108_F, r84_108, r84_111, r84_112, r84_113, r84_116, r84_119, r84_120, r84_123, r84_124, r84_125, r84_127, r84_130, r84_132, r84_133, r84_134, h6, A _ hin, H2, C, xAf_none, xAf_some, xu_app, Nat.reduceAdd, Nat.reduceSub, Nat.reduceEqDiff, Nat.reduceMul, reduceIte, and_self, and_true, true_and, and_false, false_and, true_implies, false_implies, implies_true, not_true_eq_false, not_false_eq_true, Int.reduceToNat, Int.reducePow, Int.reduceNeg, Int.reduceLT, Int.reduceLE, Int.reduceAdd, Int.reduceSub, Int.reduceMul, Int.reduceDiv, Int.reduceMod, Int.reduceEq, xA_1, xA_15, xA_255, xA_511, xA_65535, xA_32768]
            exact hno hs
        · have hs : ¬ szOK F en pl := fun z => c4 z.2.1
          simp (config := {contextual := true, maxSteps := 1000000}) (disch := omega) only [r84_0, r84_1, r84_2, r84_5, r84_8, r84_9, r84_12, r84_13_T, r84_13_F, r84_13, r84_16, r84_17, r84_20, r84_21, r84_24, r84_27, r84_30, r84_31, r84_32, r84_33, r84_36, r84_37, r84_38, r84_39, r84_42, r84_43, r84_44, r84_46, r84_47, r84_50_T, r84_50_F, r84_50, r84_53, r84_54, r84_56, r84_57, r84_60, r84_61, r84_62, r84_65, r84_66, r84_69, r84_70, r84_71, r84_74, r84_75, r84_76, r84_77, r84_80, r84_81, r84_82, r84_84, r84_85, r84_87_T, r84_87_F, r84_87, r84_90, r84_91, r84_94_T, r84_94_F, r84_94, r84_97, r84_99, r84_100_T, r84_100_F, r84_100, r84_103, r84_104, r84_105, r84_107, r84_108_T, r84_108_F, r84_108, r84_111, r84_112, r84_113, r84_116, r84_119, r84_120, r84_123, r84_124, r84_125, r84_127, r84_130, r84_132, r84_133, r84_134, h6, A _ hin, H2, C, xAf_none, xAf_some, xu_app, Nat.reduceAdd, Nat.reduceSub, Nat.reduceEqDiff, Nat.reduceMul, reduceIte, and_self, and_true, true_and, and_false, false_and, true_implies, false_implies, implies_true, not_true_eq_false, not_false_eq_true, Int.reduceToNat, Int.reducePow, Int.reduceNeg, Int.reduceLT, Int.reduceLE, Int.reduceAdd, Int.reduceSub, Int.reduceMul, Int.reduceDiv, Int.reduceMod, Int.reduceEq, xA_1, xA_15, xA_255, xA_511, xA_65535, xA_32768]
          exact hno hs
      · have hs : ¬ szOK F en pl := fun z => c3 (by have := z.2.2.2.1; rw [hB] at this; exact this)
        by_cases hin2 : 0 ≤ pl + 1 ∧ pl + 1 < f 8 0
        · have H2 := A _ hin2
          by_cases c4 : 64 ≤ F pl
          · simp (config := {contextual := true, maxSteps := 1000000}) (disch := omega) only [r84_0, r84_1, r84_2, r84_5, r84_8, r84_9, r84_12, r84_13_T, r84_13_F, r84_13, r84_16, r84_17, r84_20, r84_21, r84_24, r84_27, r84_30, r84_31, r84_32, r84_33, r84_36, r84_37, r84_38, r84_39, r84_42, r84_43, r84_44, r84_46, r84_47, r84_50_T, r84_50_F, r84_50, r84_53, r84_54, r84_56, r84_57, r84_60, r84_61, r84_62, r84_65, r84_66, r84_69, r84_70, r84_71, r84_74, r84_75, r84_76, r84_77, r84_80, r84_81, r84_82, r84_84, r84_85, r84_87_T, r84_87_F, r84_87, r84_90, r84_91, r84_94_T, r84_94_F, r84_94, r84_97, r84_99, r84_100_T, r84_100_F, r84_100, r84_103, r84_104, r84_105, r84_107, r84_108_T, r84_108_F, r84_108, r84_111, r84_112, r84_113, r84_116, r84_119, r84_120, r84_123, r84_124, r84_125, r84_127, r84_130, r84_132, r84_133, r84_134, h6, A _ hin, H2, C, xAf_none, xAf_some, xu_app, Nat.reduceAdd, Nat.reduceSub, Nat.reduceEqDiff, Nat.reduceMul, reduceIte, and_self, and_true, true_and, and_false, false_and, true_implies, false_implies, implies_true, not_true_eq_false, not_false_eq_true, Int.reduceToNat, Int.reducePow, Int.reduceNeg, Int.reduceLT, Int.reduceLE, Int.reduceAdd, Int.reduceSub, Int.reduceMul, Int.reduceDiv, Int.reduceMod, Int.reduceEq, xA_1, xA_15, xA_255, xA_511, xA_65535, xA_32768]
            exact hno hs
          · simp (config := {contextual := true, maxSteps := 1000000}) (disch := omega) only [r84_0, r84_1, r84_2, r84_5, r84_8, r84_9, r84_12, r84_13_T, r84_13_F, r84_13, r84_16, r84_17, r84_20, r84_21, r84_24, r84_27, r84_30, r84_31, r84_32, r84_33, r84_36, r84_37, r84_38, r84_39, r84_42, r84_43, r84_44, r84_46, r84_47, r84_50_T, r84_50_F, r84_50, r84_53, r84_54, r84_56, r84_57, r84_60, r84_61, r84_62, r84_65, r84_66, r84_69, r84_70, r84_71, r84_74, r84_75, r84_76, r84_77, r84_80, r84_81, r84_82, r84_84, r84_85, r84_87_T, r84_87_F, r84_87, r84_90, r84_91, r84_94_T, r84_94_F, r84_94, r84_97, r84_99, r84_100_T, r84_100_F, r84_100, r84_103, r84_104, r84_105, r84_107, r84_108_T, r84_108_F, r84_108, r84_111, r84_112, r84_113, r84_116, r84_119, r84_120, r84_123, r84_124, r84_125, r84_127, r84_130, r84_132, r84_133, r84_134, h6, A _ hin, H2, C, xAf_none, xAf_some, xu_app, Nat.reduceAdd, Nat.reduceSub, Nat.reduceEqDiff, Nat.reduceMul, reduceIte, and_self, and_true, true_and, and_false, false_and, true_implies, false_implies, implies_true, not_true_eq_false, not_false_eq_true, Int.reduceToNat, Int.reducePow, Int.reduceNeg, Int.reduceLT, Int.reduceLE, Int.reduceAdd, Int.reduceSub, Int.reduceMul, Int.reduceDiv, Int.reduceMod, Int.reduceEq, xA_1, xA_15, xA_255, xA_511, xA_65535, xA_32768]
            exact hno hs
        · have H2 := B _ (by omega) (by omega) hin2
          by_cases c4 : 64 ≤ F pl
          · simp (config := {contextual := true, maxSteps := 1000000}) (disch := omega) only [r84_0, r84_1, r84_2, r84_5, r84_8, r84_9, r84_12, r84_13_T, r84_13_F, r84_13, r84_16, r84_17, r84_20, r84_21, r84_24, r84_27, r84_30, r84_31, r84_32, r84_33, r84_36, r84_37, r84_38, r84_39, r84_42, r84_43, r84_44, r84_46, r84_47, r84_50_T, r84_50_F, r84_50, r84_53, r84_54, r84_56, r84_57, r84_60, r84_61, r84_62, r84_65, r84_66, r84_69, r84_70, r84_71, r84_74, r84_75, r84_76, r84_77, r84_80, r84_81, r84_82, r84_84, r84_85, r84_87_T, r84_87_F, r84_87, r84_90, r84_91, r84_94_T, r84_94_F, r84_94, r84_97, r84_99, r84_100_T, r84_100_F, r84_100, r84_103, r84_104, r84_105, r84_107, r84_108_T, r84_108_F, r84_108, r84_111, r84_112, r84_113, r84_116, r84_119, r84_120, r84_123, r84_124, r84_125, r84_127, r84_130, r84_132, r84_133, r84_134, h6, A _ hin, H2, C, xAf_none, xAf_some, xu_app, Nat.reduceAdd, Nat.reduceSub, Nat.reduceEqDiff, Nat.reduceMul, reduceIte, and_self, and_true, true_and, and_false, false_and, true_implies, false_implies, implies_true, not_true_eq_false, not_false_eq_true, Int.reduceToNat, Int.reducePow, Int.reduceNeg, Int.reduceLT, Int.reduceLE, Int.reduceAdd, Int.reduceSub, Int.reduceMul, Int.reduceDiv, Int.reduceMod, Int.reduceEq, xA_1, xA_15, xA_255, xA_511, xA_65535, xA_32768]
            exact hno hs
          · simp (config := {contextual := true, maxSteps := 1000000}) (disch := omega) only [r84_0, r84_1, r84_2, r84_5, r84_8, r84_9, r84_12, r84_13_T, r84_13_F, r84_13, r84_16, r84_17, r84_20, r84_21, r84_24, r84_27, r84_30, r84_31, r84_32, r84_33, r84_36, r84_37, r84_38, r84_39, r84_42, r84_43, r84_44, r84_46, r84_47, r84_50_T, r84_50_F, r84_50, r84_53, r84_54, r84_56, r84_57, r84_60, r84_61, r84_62, r84_65, r84_66, r84_69, r84_70, r84_71, r84_74, r84_75, r84_76, r84_77, r84_80, r84_81, r84_82, r84_84, r84_85, r84_87_T, r84_87_F, r84_87, r84_90, r84_91, r84_94_T, r84_94_F, r84_94, r84_97, r84_99, r84_100_T, r84_100_F, r84_100, r84_103, r84_104, r84_105, r84_107, r84_108_T, r84_108_F, r84_108, r84_111, r84_112, r84_113, r84_116, r84_119, r84_120, r84_123, r84_124, r84_125, r84_127, r84_130, r84_132, r84_133, r84_134, h6, A _ hin, H2, C, xAf_none, xAf_some, xu_app, Nat.reduceAdd, Nat.reduceSub, Nat.reduceEqDiff, Nat.reduceMul, reduceIte, and_self, and_true, true_and, and_false, false_and, true_implies, false_implies, implies_true, not_true_eq_false, not_false_eq_true, Int.reduceToNat, Int.reducePow, Int.reduceNeg, Int.reduceLT, Int.reduceLE, Int.reduceAdd, Int.reduceSub, Int.reduceMul, Int.reduceDiv, Int.reduceMod, Int.reduceEq, xA_1, xA_15, xA_255, xA_511, xA_65535, xA_32768]
            exact hno hs
    · have hB : szB F pl = pl + 1 := if_neg c2
      have hN : szN F pl = F pl - 128 := if_neg c2
      by_cases c4 : F pl = 255
      · have hs : ¬ szOK F en pl := fun z => z.2.2.1 c4
        simp (config := {contextual := true, maxSteps := 1000000}) (disch := omega) only [r84_0, r84_1, r84_2, r84_5, r84_8, r84_9, r84_12, r84_13_T, r84_13_F, r84_13, r84_16, r84_17, r84_20, r84_21, r84_24, r84_27, r84_30, r84_31, r84_32, r84_33, r84_36, r84_37, r84_38, r84_39, r84_42, r84_43, r84_44, r84_46, r84_47, r84_50_T, r84_50_F, r84_50, r84_53, r84_54, r84_56, r84_57, r84_60, r84_61, r84_62, r84_65, r84_66, r84_69, r84_70, r84_71, r84_74, r84_75, r84_76, r84_77, r84_80, r84_81, r84_82, r84_84, r84_85, r84_87_T, r84_87_F, r84_87, r84_90, r84_91, r84_94_T, r84_94_F, r84_94, r84_97, r84_99, r84_100_T, r84_100_F, r84_100, r84_103, r84_104, r84_105, r84_107, r84_108_T, r84_108_F, r84_108, r84_111, r84_112, r84_113, r84_116, r84_119, r84_120, r84_123, r84_124, r84_125, r84_127, r84_130, r84_132, r84_133, r84_134, h6, A _ hin, c4, C, xAf_none, xAf_some, xu_app, Nat.reduceAdd, Nat.reduceSub, Nat.reduceEqDiff, Nat.reduceMul, reduceIte, and_self, and_true, true_and, and_false, false_and, true_implies, false_implies, implies_true, not_true_eq_false, not_false_eq_true, Int.reduceToNat, Int.reducePow, Int.reduceNeg, Int.reduceLT, Int.reduceLE, Int.reduceAdd, Int.reduceSub, Int.reduceMul, Int.reduceDiv, Int.reduceMod, Int.reduceEq, xA_1, xA_15, xA_255, xA_511, xA_65535, xA_32768]
        exact hno hs
      · by_cases c5 : F pl - 128 ≤ en - (pl + 1)
        · have hs : szOK F en pl := ⟨c1, by omega, c4, by omega, by rw [hB, hN]; exact c5⟩
          have := hok hs
          rw [hB, hN] at this
          simp (config := {contextual := true, maxSteps := 1000000}) (disch := omega) only [r84_0, r84_1, r84_2, r84_5, r84_8, r84_9, r84_12, r84_13_T, r84_13_F, r84_13, r84_16, r84_17, r84_20, r84_21, r84_24, r84_27, r84_30, r84_31, r84_32, r84_33, r84_36, r84_37, r84_38, r84_39, r84_42, r84_43, r84_44, r84_46, r84_47, r84_50_T, r84_50_F, r84_50, r84_53, r84_54, r84_56, r84_57, r84_60, r84_61, r84_62, r84_65, r84_66, r84_69, r84_70, r84_71, r84_74, r84_75, r84_76, r84_77, r84_80, r84_81, r84_82, r84_84, r84_85, r84_87_T, r84_87_F, r84_87, r84_90, r84_91, r84_94_T, r84_94_F, r84_94, r84_97, r84_99, r84_100_T, r84_100_F, r84_100, r84_103, r84_104, r84_105, r84_107, r84_108_T, r84_108_F, r84_108, r84_111, r84_112, r84_113, r84_116, r84_119, r84_120, r84_123, r84_124, r84_125, r84_127, r84_130, r84_132, r84_133, r84_134, h6, A _ hin, c4, xAf_none, xAf_some, xu_app, Nat.reduceAdd, Nat.reduceSub, Nat.reduceEqDiff, Nat.reduceMul, reduceIte, and_self, and_true, true_and, and_false, false_and, true_implies, false_implies, implies_true, not_true_eq_false, not_false_eq_true, Int.reduceToNat, Int.reducePow, Int.reduceNeg, Int.reduceLT, Int.reduceLE, Int.reduceAdd, Int.reduceSub, Int.reduceMul, Int.reduceDiv, Int.reduceMod, Int.reduceEq, xA_1, xA_15, xA_255, xA_511, xA_65535, xA_32768]
          exact this
        · have hs : ¬ szOK F en pl := fun z => c5 (by have := z.2.2.2.2; rw [hB, hN] at this; exact this)
          simp (config := {contextual := true, maxSteps := 1000000}) (disch := omega) only [r84_0, r84_1, r84_2, r84_5, r84_8, r84_9, r84_12, r84_13_T, r84_13_F, r84_13, r84_16, r84_17, r84_20, r84_21, r84_24, r84_27, r84_30, r84_31, r84_32, r84_33, r84_36, r84_37, r84_38, r84_39, r84_42, r84_43, r84_44, r84_46, r84_47, r84_50_T, r84_50_F, r84_50, r84_53, r84_54, r84_56, r84_57, r84_60, r84_61, r84_62, r84_65, r84_66, r84_69, r84_70, r84_71, r84_74, r84_75, r84_76, r84_77, r84_80, r84_81, r84_82, r84_84, r84_85, r84_87_T, r84_87_F, r84_87, r84_90, r84_91, r84_94_T, r84_94_F, r84_94, r84_97, r84_99, r84_100_T, r84_100_F, r84_100, r84_103, r84_104, r84_105, r84_107, r84_108_T, r84_108_F, r84_108, r84_111, r84_112, r84_113, r84_116, r84_119, r84_120, r84_123, r84_124, r84_125, r84_127, r84_130, r84_132, r84_133, r84_134, h6, A _ hin, c4, C, xAf_none, xAf_some, xu_app, Nat.reduceAdd, Nat.reduceSub, Nat.reduceEqDiff, Nat.reduceMul, reduceIte, and_self, and_true, true_and, and_false, false_and, true_implies, false_implies, implies_true, not_true_eq_false, not_false_eq_true, Int.reduceToNat, Int.reducePow, Int.reduceNeg, Int.reduceLT, Int.reduceLE, Int.reduceAdd, Int.reduceSub, Int.reduceMul, Int.reduceDiv, Int.reduceMod, Int.reduceEq, xA_1, xA_15, xA_255, xA_511, xA_65535, xA_32768]
          exact hno hs
  · have hs : ¬ szOK F en pl := fun z => c1 z.1
    have hb0 : ∀ {P : Prop}, P → P := id
    by_cases hin2 : 0 ≤ pl + 1 ∧ pl + 1 < f 8 0
    · have H2 := A _ hin2
      simp (config := {contextual := true, maxSteps := 1000000}) (disch := omega) only [r84_0, r84_1, r84_2, r84_5, r84_8, r84_9, r84_12, r84_13_T, r84_13_F, r84_13, r84_16, r84_17, r84_20, r84_21, r84_24, r84_27, r84_30, r84_31, r84_32, r84_33, r84_36, r84_37, r84_38, r84_39, r84_42, r84_43, r84_44, r84_46, r84_47, r84_50_T, r84_50_F, r84_50, r84_53, r84_54, r84_56, r84_57, r84_60, r84_61, r84_62, r84_65, r84_66, r84_69, r84_70, r84_71, r84_74, r84_75, r84_76, r84_77, r84_80, r84_81, r84_82, r84_84, r84_85, r84_87_T, r84_87_F, r84_87, r84_90, r84_91, r84_94_T, r84_94_F, r84_94, r84_97, r84_99, r84_100_T, r84_100_F, r84_100, r84_103, r84_104, r84_105, r84_107, r84_108_T, r84_108_F, r84_108, r84_111, r84_112, r84_113, r84_116, r84_119, r84_120, r84_123, r84_124, r84_125, r84_127, r84_130, r84_132, r84_133, r84_134, h6, H2, C, xAf_none, xAf_some, xu_app, Nat.reduceAdd, Nat.reduceSub, Nat.reduceEqDiff, Nat.reduceMul, reduceIte, and_self, and_true, true_and, and_false, false_and, true_implies, false_implies, implies_true, not_true_eq_false, not_false_eq_true, Int.reduceToNat, Int.reducePow, Int.reduceNeg, Int.reduceLT, Int.reduceLE, Int.reduceAdd, Int.reduceSub, Int.reduceMul, Int.reduceDiv, Int.reduceMod, Int.reduceEq, xA_1, xA_15, xA_255, xA_511, xA_65535, xA_32768]
      exact hno hs
    · have H2 := B _ (by omega) (by omega) hin2
      simp (config := {contextual := true, maxSteps := 1000000}) (disch := omega) only [r84_0, r84_1, r84_2, r84_5, r84_8, r84_9, r84_12, r84_13_T, r84_13_F, r84_13, r84_16, r84_17, r84_20, r84_21, r84_24, r84_27, r84_30, r84_31, r84_32, r84_33, r84_36, r84_37, r84_38, r84_39, r84_42, r84_43, r84_44, r84_46, r84_47, r84_50_T, r84_50_F, r84_50, r84_53, r84_54, r84_56, r84_57, r84_60, r84_61, r84_62, r84_65, r84_66, r84_69, r84_70, r84_71, r84_74, r84_75, r84_76, r84_77, r84_80, r84_81, r84_82, r84_84, r84_85, r84_87_T, r84_87_F, r84_87, r84_90, r84_91, r84_94_T, r84_94_F, r84_94, r84_97, r84_99, r84_100_T, r84_100_F, r84_100, r84_103, r84_104, r84_105, r84_107, r84_108_T, r84_108_F, r84_108, r84_111, r84_112, r84_113, r84_116, r84_119, r84_120, r84_123, r84_124, r84_125, r84_127, r84_130, r84_132, r84_133, r84_134, h6, H2, C, xAf_none, xAf_some, xu_app, Nat.reduceAdd, Nat.reduceSub, Nat.reduceEqDiff, Nat.reduceMul, reduceIte, and_self, and_true, true_and, and_false, false_and, true_implies, false_implies, implies_true, not_true_eq_false, not_false_eq_true, Int.reduceToNat, Int.reducePow, Int.reduceNeg, Int.reduceLT, Int.reduceLE, Int.reduceAdd, Int.reduceSub, Int.reduceMul, Int.reduceDiv, Int.reduceMod, Int.reduceEq, xA_1, xA_15, xA_255, xA_511, xA_65535, xA_32768]
      exact hno hs
set_option maxRecDepth 100000 in
theorem l_pass (hF : ∀ j, 0 ≤ F j ∧ F j ≤ 255) (h9 : a 9 = F) (hd : 3 ≤ d) (m : Nat) : ∀ (f : Nat → Nat → Int) (k pl : Int), en ≤ f 8 0 → f 8 0 ≤ 1200 → f 20 6 = pl → f 20 7 = -1 → 0 ≤ k → 2 * k ≤ pl → pl ≤ en → en - pl < m →
    (∀ f', f' 20 6 = (psF F en m pl).1 → f' 20 7 = (if (psF F en m pl).2 = 1 then (psF F en m pl).1 else -1) → xFq f f' → Q (hh f' a g, .returned none)) →
    xT d 95 2 [.ref 20, .int (xI en), .int (xI k)] [] (hh f a g) Q := by
  have e9 : ∀ j, a 9 j = F j := fun j => by rw [h9]
  induction m with
  | zero => intro f k pl hen hln h6 h7 k0 k1 p1 hm; omega
  | succ m ih =>
    intro f k pl hen hln h6 h7 k0 k1 p1 hm hk
    rw [r95_2]
    unfold psF at hk
    by_cases c1 : pl < en ∧ F pl = 236
    · have hin : 0 ≤ pl ∧ pl < f 8 0 := by omega
      have c1' := c1.1
      have c1'' := c1.2
      rw [if_pos c1] at hk
      simp (config := {contextual := true, maxSteps := 1000000}) (disch := omega) only [r95_0, r95_1, r95_3, r95_6_T, r95_6_F, r95_6, r95_9, r95_10, r95_13, r95_14_T, r95_14_F, r95_14, r95_17, r95_18, r95_21, r95_22_T, r95_22_F, r95_22, r95_25, r95_26, r95_29, r95_30, r95_33, r95_36, r95_39_T, r95_39_F, r95_39, r95_42, r95_43, r95_44, r95_47, r95_48, r95_49, r95_52, r95_53, r95_54, r95_55, r95_58, r95_61, r95_64, r95_67, h6, h7, s_at8, hin, e9, c1'', xAf_none, xAf_some, xu_app, Nat.reduceAdd, Nat.reduceSub, Nat.reduceEqDiff, Nat.reduceMul, reduceIte, and_self, and_true, true_and, and_false, false_and, true_implies, false_implies, implies_true, not_true_eq_false, not_false_eq_true, Int.reduceToNat, Int.reducePow, Int.reduceNeg, Int.reduceLT, Int.reduceLE, Int.reduceAdd, Int.reduceSub, Int.reduceMul, Int.reduceDiv, Int.reduceMod, Int.reduceEq, xA_1, xA_15, xA_255, xA_511, xA_65535, xA_32768]
      refine p_size (F := F) (pl := pl + 1) (f := xu f 20 6 (pl + 1)) hF h9 hen hln rfl h7 (by omega) (by omega) (by omega) (fun hs => ?_) (fun hs => ?_)
      · have hb := sz_bd hF hs
        rw [if_pos hs] at hk
        simp (config := {contextual := true, maxSteps := 1000000}) (disch := omega) only [r95_0, r95_1, r95_3, r95_6_T, r95_6_F, r95_6, r95_9, r95_10, r95_13, r95_14_T, r95_14_F, r95_14, r95_17, r95_18, r95_21, r95_22_T, r95_22_F, r95_22, r95_25, r95_26, r95_29, r95_30, r95_33, r95_36, r95_39_T, r95_39_F, r95_39, r95_42, r95_43, r95_44, r95_47, r95_48, r95_49, r95_52, r95_53, r95_54, r95_55, r95_58, r95_61, r95_64, r95_67, xAf_none, xAf_some, xu_app, Nat.reduceAdd, Nat.reduceSub, Nat.reduceEqDiff, Nat.reduceMul, reduceIte, and_self, and_true, true_and, and_false, false_and, true_implies, false_implies, implies_true, not_true_eq_false, not_false_eq_true, Int.reduceToNat, Int.reducePow, Int.reduceNeg, Int.reduceLT, Int.reduceLE, Int.reduceAdd, Int.reduceSub, Int.reduceMul, Int.reduceDiv, Int.reduceMod, Int.reduceEq, xA_1, xA_15, xA_255, xA_511, xA_65535, xA_32768]
        refine ih _ (k + 1) (szB F (pl + 1) + szN F (pl + 1)) hen hln rfl h7 (by omega) (by omega) (by omega) (by omega) fun f' g1 g2 F' => hk f' g1 g2 ?_
        exact ((((xFq.u (.inl rfl)).trans (xFq.u (.inr (.inr rfl)))).trans (xFq.u (.inl rfl))).trans (xFq.u (.inl rfl))).trans F'
      · rw [if_neg hs] at hk
        simp (config := {contextual := true, maxSteps := 1000000}) (disch := omega) only [r95_0, r95_1, r95_3, r95_6_T, r95_6_F, r95_6, r95_9, r95_10, r95_13, r95_14_T, r95_14_F, r95_14, r95_17, r95_18, r95_21, r95_22_T, r95_22_F, r95_22, r95_25, r95_26, r95_29, r95_30, r95_33, r95_36, r95_39_T, r95_39_F, r95_39, r95_42, r95_43, r95_44, r95_47, r95_48, r95_49, r95_52, r95_53, r95_54, r95_55, r95_58, r95_61, r95_64, r95_67, xAf_none, xAf_some, xu_app, Nat.reduceAdd, Nat.reduceSub, Nat.reduceEqDiff, Nat.reduceMul, reduceIte, and_self, and_true, true_and, and_false, false_and, true_implies, false_implies, implies_true, not_true_eq_false, not_false_eq_true, Int.reduceToNat, Int.reducePow, Int.reduceNeg, Int.reduceLT, Int.reduceLE, Int.reduceAdd, Int.reduceSub, Int.reduceMul, Int.reduceDiv, Int.reduceMod, Int.reduceEq, xA_1, xA_15, xA_255, xA_511, xA_65535, xA_32768]
        rw [r95_2]
        have hn1 : ¬ pl + 1 = -1 := by omega
        have hk12 : k + 1 < 1200 := by omega
        simp (config := {contextual := true, maxSteps := 1000000}) (disch := omega) only [r95_0, r95_1, r95_3, r95_6_T, r95_6_F, r95_6, r95_9, r95_10, r95_13, r95_14_T, r95_14_F, r95_14, r95_17, r95_18, r95_21, r95_22_T, r95_22_F, r95_22, r95_25, r95_26, r95_29, r95_30, r95_33, r95_36, r95_39_T, r95_39_F, r95_39, r95_42, r95_43, r95_44, r95_47, r95_48, r95_49, r95_52, r95_53, r95_54, r95_55, r95_58, r95_61, r95_64, r95_67, hn1, xAf_none, xAf_some, xu_app, Nat.reduceAdd, Nat.reduceSub, Nat.reduceEqDiff, Nat.reduceMul, reduceIte, and_self, and_true, true_and, and_false, false_and, true_implies, false_implies, implies_true, not_true_eq_false, not_false_eq_true, Int.reduceToNat, Int.reducePow, Int.reduceNeg, Int.reduceLT, Int.reduceLE, Int.reduceAdd, Int.reduceSub, Int.reduceMul, Int.reduceDiv, Int.reduceMod, Int.reduceEq, xA_1, xA_15, xA_255, xA_511, xA_65535, xA_32768]
        refine hk _ rfl rfl ((((xFq.u (.inl rfl)).trans (xFq.u (.inr (.inr rfl)))).trans (xFq.u (.inr (.inl rfl)))).trans (xFq.u (.inl rfl)))
    · rw [if_neg c1] at hk
      by_cases c2 : pl < en
      · have hin : 0 ≤ pl ∧ pl < f 8 0 := by omega
        have c3 : ¬ F pl = 236 := fun z => c1 ⟨c2, z⟩
        have b1 := hF pl
        simp (config := {contextual := true, maxSteps := 1000000}) (disch := omega) only [r95_0, r95_1, r95_3, r95_6_T, r95_6_F, r95_6, r95_9, r95_10, r95_13, r95_14_T, r95_14_F, r95_14, r95_17, r95_18, r95_21, r95_22_T, r95_22_F, r95_22, r95_25, r95_26, r95_29, r95_30, r95_33, r95_36, r95_39_T, r95_39_F, r95_39, r95_42, r95_43, r95_44, r95_47, r95_48, r95_49, r95_52, r95_53, r95_54, r95_55, r95_58, r95_61, r95_64, r95_67, h6, h7, s_at8, hin, e9, c3, xAf_none, xAf_some, xu_app, Nat.reduceAdd, Nat.reduceSub, Nat.reduceEqDiff, Nat.reduceMul, reduceIte, and_self, and_true, true_and, and_false, false_and, true_implies, false_implies, implies_true, not_true_eq_false, not_false_eq_true, Int.reduceToNat, Int.reducePow, Int.reduceNeg, Int.reduceLT, Int.reduceLE, Int.reduceAdd, Int.reduceSub, Int.reduceMul, Int.reduceDiv, Int.reduceMod, Int.reduceEq, xA_1, xA_15, xA_255, xA_511, xA_65535, xA_32768]
        exact hk f h6 h7 (xFq.refl _)
      · have hk12 : k < 1200 := by omega
        simp (config := {contextual := true, maxSteps := 1000000}) (disch := omega) only [r95_0, r95_1, r95_3, r95_6_T, r95_6_F, r95_6, r95_9, r95_10, r95_13, r95_14_T, r95_14_F, r95_14, r95_17, r95_18, r95_21, r95_22_T, r95_22_F, r95_22, r95_25, r95_26, r95_29, r95_30, r95_33, r95_36, r95_39_T, r95_39_F, r95_39, r95_42, r95_43, r95_44, r95_47, r95_48, r95_49, r95_52, r95_53, r95_54, r95_55, r95_58, r95_61, r95_64, r95_67, h6, h7, xAf_none, xAf_some, xu_app, Nat.reduceAdd, Nat.reduceSub, Nat.reduceEqDiff, Nat.reduceMul, reduceIte, and_self, and_true, true_and, and_false, false_and, true_implies, false_implies, implies_true, not_true_eq_false, not_false_eq_true, Int.reduceToNat, Int.reducePow, Int.reduceNeg, Int.reduceLT, Int.reduceLE, Int.reduceAdd, Int.reduceSub, Int.reduceMul, Int.reduceDiv, Int.reduceMod, Int.reduceEq, xA_1, xA_15, xA_255, xA_511, xA_65535, xA_32768]
        exact hk f h6 h7 (xFq.refl _)
theorem p_empty (hF : ∀ j, 0 ≤ F j ∧ F j ≤ 255) (h9 : a 9 = F) (hen : en ≤ f 8 0) (hln : f 8 0 ≤ 1200) (h6 : f 20 6 = pl) (h7 : f 20 7 = -1) (p0 : 0 ≤ pl) (p1 : pl ≤ en) (hd : 3 ≤ d) (hk : ∀ f', f' 20 6 = (pas F en pl).1 → f' 20 7 = (if (pas F en pl).2 = 1 then (pas F en pl).1 else -1) → xFq f f' → Q (hh f' a g, .returned none)) : xTC d 95 [.ref 20, .int (xI en)] (hh f a g) Q := by
  rw [e95]
  simp (config := {contextual := true, maxSteps := 1000000}) (disch := omega) only [r95_0, r95_1, r95_3, r95_6_T, r95_6_F, r95_6, r95_9, r95_10, r95_13, r95_14_T, r95_14_F, r95_14, r95_17, r95_18, r95_21, r95_22_T, r95_22_F, r95_22, r95_25, r95_26, r95_29, r95_30, r95_33, r95_36, r95_39_T, r95_39_F, r95_39, r95_42, r95_43, r95_44, r95_47, r95_48, r95_49, r95_52, r95_53, r95_54, r95_55, r95_58, r95_61, r95_64, r95_67, xAf_none, xAf_some, xu_app, Nat.reduceAdd, Nat.reduceSub, Nat.reduceEqDiff, Nat.reduceMul, reduceIte, and_self, and_true, true_and, and_false, false_and, true_implies, false_implies, implies_true, not_true_eq_false, not_false_eq_true, Int.reduceToNat, Int.reducePow, Int.reduceNeg, Int.reduceLT, Int.reduceLE, Int.reduceAdd, Int.reduceSub, Int.reduceMul, Int.reduceDiv, Int.reduceMod, Int.reduceEq, xA_1, xA_15, xA_255, xA_511, xA_65535, xA_32768]
  exact l_pass hF h9 hd 1201 f 0 pl hen hln h6 h7 (by omega) (by omega) p1 (by omega) hk
theorem d_empty (h7 : ¬ f 20 7 = -1) (h0 : -1 ≤ f 20 7) (h1 : f 20 7 ≤ 100000) : xTC d 95 [.ref 20, .int (xI en)] (hh f a g) Q ↔ Q (hh f a g, .returned none) := by
  rw [e95]
  simp (config := {contextual := true, maxSteps := 1000000}) (disch := omega) only [r95_0, r95_1, r95_3, r95_6_T, r95_6_F, r95_6, r95_9, r95_10, r95_13, r95_14_T, r95_14_F, r95_14, r95_17, r95_18, r95_21, r95_22_T, r95_22_F, r95_22, r95_25, r95_26, r95_29, r95_30, r95_33, r95_36, r95_39_T, r95_39_F, r95_39, r95_42, r95_43, r95_44, r95_47, r95_48, r95_49, r95_52, r95_53, r95_54, r95_55, r95_58, r95_61, r95_64, r95_67, h7, r95_2, xAf_none, xAf_some, xu_app, Nat.reduceAdd, Nat.reduceSub, Nat.reduceEqDiff, Nat.reduceMul, reduceIte, and_self, and_true, true_and, and_false, false_and, true_implies, false_implies, implies_true, not_true_eq_false, not_false_eq_true, Int.reduceToNat, Int.reducePow, Int.reduceNeg, Int.reduceLT, Int.reduceLE, Int.reduceAdd, Int.reduceSub, Int.reduceMul, Int.reduceDiv, Int.reduceMod, Int.reduceEq, xA_1, xA_15, xA_255, xA_511, xA_65535, xA_32768]
set_option maxRecDepth 100000 in
theorem p_enter (hF : ∀ j, 0 ≤ F j ∧ F j ≤ 255) (h9 : a 9 = F) (hen : en ≤ f 8 0) (hln : f 8 0 ≤ 1200) (h6 : f 20 6 = pl) (h7 : f 20 7 = -1) (p0 : 0 ≤ pl) (p1 : pl ≤ en) (i0 : 0 ≤ id) (i1 : id ≤ 255) (hd : 4 ≤ d)
    (hno : (enF F id en pl).1 = 1 → ∀ f' r, f' 20 7 = (enF F id en pl).2.1 → f' 20 6 = (enF F id en pl).2.1 → xFq f f' → r = (enF F id en pl).2.1 → Q (hh f' a g, .returned (some (.int (xI r)))))
    (hok : (enF F id en pl).1 = 0 → ∀ f', f' 20 7 = -1 → f' 20 6 = (enF F id en pl).2.1 → f' 20 9 = (enF F id en pl).2.2.2 → xFq f f' → Q (hh f' a g, .returned (some (.int (xI (enF F id en pl).2.2.1))))) : xTC d 96 [.ref 20, .int (xI id), .int (xI en)] (hh f a g) Q := by
  have e9 : ∀ j, a 9 j = F j := fun j => by rw [h9]
  have hpb := pas_bd hF p1
  rw [e96]
  simp (config := {contextual := true, maxSteps := 1000000}) (disch := omega) only [r96_0, r96_1, r96_2, r96_5, r96_6, r96_9, r96_10_T, r96_10_F, r96_10, r96_13, r96_14, r96_17, r96_18, r96_21, r96_24, r96_25_T, r96_25_F, r96_25, r96_28, r96_29, r96_30, r96_33, r96_36, r96_37, r96_40, r96_41_T, r96_41_F, r96_41, r96_44, r96_45, r96_48, r96_49, r96_50, r96_51, r96_54, r96_55, r96_56, r96_59, r96_60, r96_61, r96_64, xAf_none, xAf_some, xu_app, Nat.reduceAdd, Nat.reduceSub, Nat.reduceEqDiff, Nat.reduceMul, reduceIte, and_self, and_true, true_and, and_false, false_and, true_implies, false_implies, implies_true, not_true_eq_false, not_false_eq_true, Int.reduceToNat, Int.reducePow, Int.reduceNeg, Int.reduceLT, Int.reduceLE, Int.reduceAdd, Int.reduceSub, Int.reduceMul, Int.reduceDiv, Int.reduceMod, Int.reduceEq, xA_1, xA_15, xA_255, xA_511, xA_65535, xA_32768]
  refine p_empty hF h9 hen hln h6 h7 p0 p1 (by omega) fun f1 g6 g7 F1 => ?_
  have e8 : f1 8 = f 8 := F1.1 8 (by decide)
  unfold enF at hno hok
  obtain ⟨q, hq⟩ : ∃ q, (pas F en pl).1 = q := ⟨_, rfl⟩
  rw [hq] at g6 g7 hno hok hpb
  have hl0 : 0 ≤ f1 8 0 := by rw [e8]; omega
  have hl1 : f1 8 0 ≤ 1200 := by rw [e8]; omega
  by_cases c0 : (pas F en pl).2 = 1
  · rw [if_pos c0] at g7 hno hok
    have hn1 : ¬ q = -1 := by omega
    have hn2 : ¬ f1 20 7 = -1 := by omega
    have hn3 : -1 ≤ f1 20 7 := by omega
    have hn4 : f1 20 7 ≤ 100000 := by omega
    have hfin : Q (hh f1 a g, .returned (some (.int (xI q)))) := hno rfl f1 q g7 g6 F1 rfl
    by_cases c1 : q < en
    · have hin : 0 ≤ q ∧ q < f1 8 0 := by rw [e8]; omega
      have b1 := hF q
      by_cases c2 : F q = id
      · simp (config := {contextual := true, maxSteps := 1000000}) (disch := omega) only [r96_0, r96_1, r96_2, r96_5, r96_6, r96_9, r96_10_T, r96_10_F, r96_10, r96_13, r96_14, r96_17, r96_18, r96_21, r96_24, r96_25_T, r96_25_F, r96_25, r96_28, r96_29, r96_30, r96_33, r96_36, r96_37, r96_40, r96_41_T, r96_41_F, r96_41, r96_44, r96_45, r96_48, r96_49, r96_50, r96_51, r96_54, r96_55, r96_56, r96_59, r96_60, r96_61, r96_64, g6, g7, hn1, s_at8, hin, e9, c2, xAf_none, xAf_some, xu_app, Nat.reduceAdd, Nat.reduceSub, Nat.reduceEqDiff, Nat.reduceMul, reduceIte, and_self, and_true, true_and, and_false, false_and, true_implies, false_implies, implies_true, not_true_eq_false, not_false_eq_true, Int.reduceToNat, Int.reducePow, Int.reduceNeg, Int.reduceLT, Int.reduceLE, Int.reduceAdd, Int.reduceSub, Int.reduceMul, Int.reduceDiv, Int.reduceMod, Int.reduceEq, xA_1, xA_15, xA_255, xA_511, xA_65535, xA_32768]
        exact hfin
      · simp (config := {contextual := true, maxSteps := 1000000}) (disch := omega) only [r96_0, r96_1, r96_2, r96_5, r96_6, r96_9, r96_10_T, r96_10_F, r96_10, r96_13, r96_14, r96_17, r96_18, r96_21, r96_24, r96_25_T, r96_25_F, r96_25, r96_28, r96_29, r96_30, r96_33, r96_36, r96_37, r96_40, r96_41_T, r96_41_F, r96_41, r96_44, r96_45, r96_48, r96_49, r96_50, r96_51, r96_54, r96_55, r96_56, r96_59, r96_60, r96_61, r96_64, g6, g7, hn1, s_at8, hin, e9, c2, s_fail1, xAf_none, xAf_some, xu_app, Nat.reduceAdd, Nat.reduceSub, Nat.reduceEqDiff, Nat.reduceMul, reduceIte, and_self, and_true, true_and, and_false, false_and, true_implies, false_implies, implies_true, not_true_eq_false, not_false_eq_true, Int.reduceToNat, Int.reducePow, Int.reduceNeg, Int.reduceLT, Int.reduceLE, Int.reduceAdd, Int.reduceSub, Int.reduceMul, Int.reduceDiv, Int.reduceMod, Int.reduceEq, xA_1, xA_15, xA_255, xA_511, xA_65535, xA_32768]
        exact hfin
    · simp (config := {contextual := true, maxSteps := 1000000}) (disch := omega) only [r96_0, r96_1, r96_2, r96_5, r96_6, r96_9, r96_10_T, r96_10_F, r96_10, r96_13, r96_14, r96_17, r96_18, r96_21, r96_24, r96_25_T, r96_25_F, r96_25, r96_28, r96_29, r96_30, r96_33, r96_36, r96_37, r96_40, r96_41_T, r96_41_F, r96_41, r96_44, r96_45, r96_48, r96_49, r96_50, r96_51, r96_54, r96_55, r96_56, r96_59, r96_60, r96_61, r96_64, g6, g7, hn1, s_fail1, xAf_none, xAf_some, xu_app, Nat.reduceAdd, Nat.reduceSub, Nat.reduceEqDiff, Nat.reduceMul, reduceIte, and_self, and_true, true_and, and_false, false_and, true_implies, false_implies, implies_true, not_true_eq_false, not_false_eq_true, Int.reduceToNat, Int.reducePow, Int.reduceNeg, Int.reduceLT, Int.reduceLE, Int.reduceAdd, Int.reduceSub, Int.reduceMul, Int.reduceDiv, Int.reduceMod, Int.reduceEq, xA_1, xA_15, xA_255, xA_511, xA_65535, xA_32768]
      exact hfin
  · rw [if_neg c0] at g7 hno hok
    by_cases c1 : q < en ∧ F q = id
    · rw [if_neg (fun z => z c1)] at hno hok
      have c1' := c1.1
      have c1'' := c1.2
      have hin : 0 ≤ q ∧ q < f1 8 0 := by rw [e8]; omega
      simp (config := {contextual := true, maxSteps := 1000000}) (disch := omega) only [r96_0, r96_1, r96_2, r96_5, r96_6, r96_9, r96_10_T, r96_10_F, r96_10, r96_13, r96_14, r96_17, r96_18, r96_21, r96_24, r96_25_T, r96_25_F, r96_25, r96_28, r96_29, r96_30, r96_33, r96_36, r96_37, r96_40, r96_41_T, r96_41_F, r96_41, r96_44, r96_45, r96_48, r96_49, r96_50, r96_51, r96_54, r96_55, r96_56, r96_59, r96_60, r96_61, r96_64, g6, g7, s_at8, hin, e9, c1'', xAf_none, xAf_some, xu_app, Nat.reduceAdd, Nat.reduceSub, Nat.reduceEqDiff, Nat.reduceMul, reduceIte, and_self, and_true, true_and, and_false, false_and, true_implies, false_implies, implies_true, not_true_eq_false, not_false_eq_true, Int.reduceToNat, Int.reducePow, Int.reduceNeg, Int.reduceLT, Int.reduceLE, Int.reduceAdd, Int.reduceSub, Int.reduceMul, Int.reduceDiv, Int.reduceMod, Int.reduceEq, xA_1, xA_15, xA_255, xA_511, xA_65535, xA_32768]
      refine p_size (F := F) (pl := q + 1) (f := xu f1 20 6 (q + 1)) hF h9 (by show en ≤ f1 8 0; rw [e8]; omega) hl1 rfl g7 (by omega) (by omega) (by omega) (fun hs => ?_) (fun hs => ?_)
      · rw [if_pos hs] at hno hok
        simp (config := {contextual := true, maxSteps := 1000000}) (disch := omega) only [r96_0, r96_1, r96_2, r96_5, r96_6, r96_9, r96_10_T, r96_10_F, r96_10, r96_13, r96_14, r96_17, r96_18, r96_21, r96_24, r96_25_T, r96_25_F, r96_25, r96_28, r96_29, r96_30, r96_33, r96_36, r96_37, r96_40, r96_41_T, r96_41_F, r96_41, r96_44, r96_45, r96_48, r96_49, r96_50, r96_51, r96_54, r96_55, r96_56, r96_59, r96_60, r96_61, r96_64, xAf_none, xAf_some, xu_app, Nat.reduceAdd, Nat.reduceSub, Nat.reduceEqDiff, Nat.reduceMul, reduceIte, and_self, and_true, true_and, and_false, false_and, true_implies, false_implies, implies_true, not_true_eq_false, not_false_eq_true, Int.reduceToNat, Int.reducePow, Int.reduceNeg, Int.reduceLT, Int.reduceLE, Int.reduceAdd, Int.reduceSub, Int.reduceMul, Int.reduceDiv, Int.reduceMod, Int.reduceEq, xA_1, xA_15, xA_255, xA_511, xA_65535, xA_32768]
        exact hok rfl _ g7 rfl rfl (F1.trans (((xFq.u (.inl rfl)).trans (xFq.u (.inr (.inr rfl)))).trans (xFq.u (.inl rfl))))
      · rw [if_neg hs] at hno hok
        simp (config := {contextual := true, maxSteps := 1000000}) (disch := omega) only [r96_0, r96_1, r96_2, r96_5, r96_6, r96_9, r96_10_T, r96_10_F, r96_10, r96_13, r96_14, r96_17, r96_18, r96_21, r96_24, r96_25_T, r96_25_F, r96_25, r96_28, r96_29, r96_30, r96_33, r96_36, r96_37, r96_40, r96_41_T, r96_41_F, r96_41, r96_44, r96_45, r96_48, r96_49, r96_50, r96_51, r96_54, r96_55, r96_56, r96_59, r96_60, r96_61, r96_64, xAf_none, xAf_some, xu_app, Nat.reduceAdd, Nat.reduceSub, Nat.reduceEqDiff, Nat.reduceMul, reduceIte, and_self, and_true, true_and, and_false, false_and, true_implies, false_implies, implies_true, not_true_eq_false, not_false_eq_true, Int.reduceToNat, Int.reducePow, Int.reduceNeg, Int.reduceLT, Int.reduceLE, Int.reduceAdd, Int.reduceSub, Int.reduceMul, Int.reduceDiv, Int.reduceMod, Int.reduceEq, xA_1, xA_15, xA_255, xA_511, xA_65535, xA_32768]
        exact hno rfl _ _ rfl rfl (F1.trans (((xFq.u (.inl rfl)).trans (xFq.u (.inr (.inr rfl)))).trans (xFq.u (.inr (.inl rfl))))) rfl
    · rw [if_pos c1] at hno hok
      have hfin : Q (hh (xu f1 20 7 q) a g, .returned (some (.int (xI q)))) := hno rfl _ q rfl g6 (F1.trans (xFq.u (.inr (.inl rfl)))) rfl
      have hn1 : ¬ q = -1 := by omega
      by_cases c2 : q < en
      · have hin : 0 ≤ q ∧ q < f1 8 0 := by rw [e8]; omega
        have c3 : ¬ F q = id := fun z => c1 ⟨c2, z⟩
        have b1 := hF q
        simp (config := {contextual := true, maxSteps := 1000000}) (disch := omega) only [r96_0, r96_1, r96_2, r96_5, r96_6, r96_9, r96_10_T, r96_10_F, r96_10, r96_13, r96_14, r96_17, r96_18, r96_21, r96_24, r96_25_T, r96_25_F, r96_25, r96_28, r96_29, r96_30, r96_33, r96_36, r96_37, r96_40, r96_41_T, r96_41_F, r96_41, r96_44, r96_45, r96_48, r96_49, r96_50, r96_51, r96_54, r96_55, r96_56, r96_59, r96_60, r96_61, r96_64, g6, g7, s_at8, hin, e9, c3, s_fail0, hn1, xAf_none, xAf_some, xu_app, Nat.reduceAdd, Nat.reduceSub, Nat.reduceEqDiff, Nat.reduceMul, reduceIte, and_self, and_true, true_and, and_false, false_and, true_implies, false_implies, implies_true, not_true_eq_false, not_false_eq_true, Int.reduceToNat, Int.reducePow, Int.reduceNeg, Int.reduceLT, Int.reduceLE, Int.reduceAdd, Int.reduceSub, Int.reduceMul, Int.reduceDiv, Int.reduceMod, Int.reduceEq, xA_1, xA_15, xA_255, xA_511, xA_65535, xA_32768]
        exact hfin
      · simp (config := {contextual := true, maxSteps := 1000000}) (disch := omega) only [r96_0, r96_1, r96_2, r96_5, r96_6, r96_9, r96_10_T, r96_10_F, r96_10, r96_13, r96_14, r96_17, r96_18, r96_21, r96_24, r96_25_T, r96_25_F, r96_25, r96_28, r96_29, r96_30, r96_33, r96_36, r96_37, r96_40, r96_41_T, r96_41_F, r96_41, r96_44, r96_45, r96_48, r96_49, r96_50, r96_51, r96_54, r96_55, r96_56, r96_59, r96_60, r96_61, r96_64, g6, g7, s_fail0, hn1, xAf_none, xAf_some, xu_app, Nat.reduceAdd, Nat.reduceSub, Nat.reduceEqDiff, Nat.reduceMul, reduceIte, and_self, and_true, true_and, and_false, false_and, true_implies, false_implies, implies_true, not_true_eq_false, not_false_eq_true, Int.reduceToNat, Int.reducePow, Int.reduceNeg, Int.reduceLT, Int.reduceLE, Int.reduceAdd, Int.reduceSub, Int.reduceMul, Int.reduceDiv, Int.reduceMod, Int.reduceEq, xA_1, xA_15, xA_255, xA_511, xA_65535, xA_32768]
        exact hfin
theorem d_enter (h7 : ¬ f 20 7 = -1) (h0 : -1 ≤ f 20 7) (h1 : f 20 7 ≤ 100000) (h6 : 0 ≤ f 20 6) (h6' : f 20 6 ≤ 1200) (e0 : -1 ≤ en) (e1 : en ≤ 1200) (i0 : 0 ≤ id) (i1 : id ≤ 255) (hF : ∀ j, 0 ≤ a 9 j ∧ a 9 j ≤ 255) (hl0 : 0 ≤ f 8 0) (hl1 : f 8 0 ≤ 1200) (hd : 2 ≤ d) : xTC d 96 [.ref 20, .int (xI id), .int (xI en)] (hh f a g) Q ↔ Q (hh f a g, .returned (some (.int (xI (f 20 6))))) := by
  rw [e96]
  have b1 := hF (f 20 6)
  by_cases c1 : f 20 6 < en
  · by_cases c2 : 0 ≤ f 20 6 ∧ f 20 6 < f 8 0
    · by_cases c3 : a 9 (f 20 6) = id
      · simp (config := {contextual := true, maxSteps := 1000000}) (disch := omega) only [r96_0, r96_1, r96_2, r96_5, r96_6, r96_9, r96_10_T, r96_10_F, r96_10, r96_13, r96_14, r96_17, r96_18, r96_21, r96_24, r96_25_T, r96_25_F, r96_25, r96_28, r96_29, r96_30, r96_33, r96_36, r96_37, r96_40, r96_41_T, r96_41_F, r96_41, r96_44, r96_45, r96_48, r96_49, r96_50, r96_51, r96_54, r96_55, r96_56, r96_59, r96_60, r96_61, r96_64, d_empty, s_at8, c2, c3, h7, xAf_none, xAf_some, xu_app, Nat.reduceAdd, Nat.reduceSub, Nat.reduceEqDiff, Nat.reduceMul, reduceIte, and_self, and_true, true_and, and_false, false_and, true_implies, false_implies, implies_true, not_true_eq_false, not_false_eq_true, Int.reduceToNat, Int.reducePow, Int.reduceNeg, Int.reduceLT, Int.reduceLE, Int.reduceAdd, Int.reduceSub, Int.reduceMul, Int.reduceDiv, Int.reduceMod, Int.reduceEq, xA_1, xA_15, xA_255, xA_511, xA_65535, xA_32768]
      · simp (config := {contextual := true, maxSteps := 1000000}) (disch := omega) only [r96_0, r96_1, r96_2, r96_5, r96_6, r96_9, r96_10_T, r96_10_F, r96_10, r96_13, r96_14, r96_17, r96_18, r96_21, r96_24, r96_25_T, r96_25_F, r96_25, r96_28, r96_29, r96_30, r96_33, r96_36, r96_37, r96_40, r96_41_T, r96_41_F, r96_41, r96_44, r96_45, r96_48, r96_49, r96_50, r96_51, r96_54, r96_55, r96_56, r96_59, r96_60, r96_61, r96_64, d_empty, s_at8, c2, c3, h7, s_fail1, xAf_none, xAf_some, xu_app, Nat.reduceAdd, Nat.reduceSub, Nat.reduceEqDiff, Nat.reduceMul, reduceIte, and_self, and_true, true_and, and_false, false_and, true_implies, false_implies, implies_true, not_true_eq_false, not_false_eq_true, Int.reduceToNat, Int.reducePow, Int.reduceNeg, Int.reduceLT, Int.reduceLE, Int.reduceAdd, Int.reduceSub, Int.reduceMul, Int.reduceDiv, Int.reduceMod, Int.reduceEq, xA_1, xA_15, xA_255, xA_511, xA_65535, xA_32768]
    · by_cases c3 : id = -1
      · omega
      · have c3' : ¬ -1 = id := fun z => c3 z.symm
        simp (config := {contextual := true, maxSteps := 1000000}) (disch := omega) only [r96_0, r96_1, r96_2, r96_5, r96_6, r96_9, r96_10_T, r96_10_F, r96_10, r96_13, r96_14, r96_17, r96_18, r96_21, r96_24, r96_25_T, r96_25_F, r96_25, r96_28, r96_29, r96_30, r96_33, r96_36, r96_37, r96_40, r96_41_T, r96_41_F, r96_41, r96_44, r96_45, r96_48, r96_49, r96_50, r96_51, r96_54, r96_55, r96_56, r96_59, r96_60, r96_61, r96_64, d_empty, s_at8, c2, c3', h7, s_fail1, xAf_none, xAf_some, xu_app, Nat.reduceAdd, Nat.reduceSub, Nat.reduceEqDiff, Nat.reduceMul, reduceIte, and_self, and_true, true_and, and_false, false_and, true_implies, false_implies, implies_true, not_true_eq_false, not_false_eq_true, Int.reduceToNat, Int.reducePow, Int.reduceNeg, Int.reduceLT, Int.reduceLE, Int.reduceAdd, Int.reduceSub, Int.reduceMul, Int.reduceDiv, Int.reduceMod, Int.reduceEq, xA_1, xA_15, xA_255, xA_511, xA_65535, xA_32768]
  · simp (config := {contextual := true, maxSteps := 1000000}) (disch := omega) only [r96_0, r96_1, r96_2, r96_5, r96_6, r96_9, r96_10_T, r96_10_F, r96_10, r96_13, r96_14, r96_17, r96_18, r96_21, r96_24, r96_25_T, r96_25_F, r96_25, r96_28, r96_29, r96_30, r96_33, r96_36, r96_37, r96_40, r96_41_T, r96_41_F, r96_41, r96_44, r96_45, r96_48, r96_49, r96_50, r96_51, r96_54, r96_55, r96_56, r96_59, r96_60, r96_61, r96_64, d_empty, h7, s_fail1, xAf_none, xAf_some, xu_app, Nat.reduceAdd, Nat.reduceSub, Nat.reduceEqDiff, Nat.reduceMul, reduceIte, and_self, and_true, true_and, and_false, false_and, true_implies, false_implies, implies_true, not_true_eq_false, not_false_eq_true, Int.reduceToNat, Int.reducePow, Int.reduceNeg, Int.reduceLT, Int.reduceLE, Int.reduceAdd, Int.reduceSub, Int.reduceMul, Int.reduceDiv, Int.reduceMod, Int.reduceEq, xA_1, xA_15, xA_255, xA_511, xA_65535, xA_32768]
theorem p_leave (hF : ∀ j, 0 ≤ F j ∧ F j ≤ 255) (h9 : a 9 = F) (hen : en ≤ f 8 0) (hln : f 8 0 ≤ 1200) (h6 : f 20 6 = pl) (h7 : f 20 7 = -1) (p0 : 0 ≤ pl) (p1 : pl ≤ en) (hd : 4 ≤ d) (hk : ∀ f', f' 20 6 = (lvF F en pl).1 → f' 20 7 = (if (lvF F en pl).2 = 1 then (lvF F en pl).1 else -1) → xFq f f' → Q (hh f' a g, .returned none)) : xTC d 83 [.ref 20, .int (xI en)] (hh f a g) Q := by
  have hpb := pas_bd hF p1
  rw [e83]
  simp (config := {contextual := true, maxSteps := 1000000}) (disch := omega) only [r83_0, r83_1, r83_2, r83_5, r83_6, r83_9, r83_10_T, r83_10_F, r83_10, r83_13, r83_14, r83_15, r83_18, r83_21, xAf_none, xAf_some, xu_app, Nat.reduceAdd, Nat.reduceSub, Nat.reduceEqDiff, Nat.reduceMul, reduceIte, and_self, and_true, true_and, and_false, false_and, true_implies, false_implies, implies_true, not_true_eq_false, not_false_eq_true, Int.reduceToNat, Int.reducePow, Int.reduceNeg, Int.reduceLT, Int.reduceLE, Int.reduceAdd, Int.reduceSub, Int.reduceMul, Int.reduceDiv, Int.reduceMod, Int.reduceEq, xA_1, xA_15, xA_255, xA_511, xA_65535, xA_32768]
  refine p_empty hF h9 hen hln h6 h7 p0 p1 (by omega) fun f1 g6 g7 F1 => ?_
  unfold lvF at hk
  obtain ⟨q, hq⟩ : ∃ q, (pas F en pl).1 = q := ⟨_, rfl⟩
  rw [hq] at g6 g7 hk hpb
  by_cases c0 : (pas F en pl).2 = 1
  · rw [if_pos c0] at g7 hk
    have hn2 : ¬ f1 20 7 = -1 := by omega
    have hn3 : -1 ≤ f1 20 7 := by omega
    have hn4 : f1 20 7 ≤ 100000 := by omega
    by_cases c1 : q = en
    · simp (config := {contextual := true, maxSteps := 1000000}) (disch := omega) only [r83_0, r83_1, r83_2, r83_5, r83_6, r83_9, r83_10_T, r83_10_F, r83_10, r83_13, r83_14, r83_15, r83_18, r83_21, g6, c1, xAf_none, xAf_some, xu_app, Nat.reduceAdd, Nat.reduceSub, Nat.reduceEqDiff, Nat.reduceMul, reduceIte, and_self, and_true, true_and, and_false, false_and, true_implies, false_implies, implies_true, not_true_eq_false, not_false_eq_true, Int.reduceToNat, Int.reducePow, Int.reduceNeg, Int.reduceLT, Int.reduceLE, Int.reduceAdd, Int.reduceSub, Int.reduceMul, Int.reduceDiv, Int.reduceMod, Int.reduceEq, xA_1, xA_15, xA_255, xA_511, xA_65535, xA_32768]
      exact hk f1 g6 g7 F1
    · simp (config := {contextual := true, maxSteps := 1000000}) (disch := omega) only [r83_0, r83_1, r83_2, r83_5, r83_6, r83_9, r83_10_T, r83_10_F, r83_10, r83_13, r83_14, r83_15, r83_18, r83_21, g6, c1, s_fail1, xAf_none, xAf_some, xu_app, Nat.reduceAdd, Nat.reduceSub, Nat.reduceEqDiff, Nat.reduceMul, reduceIte, and_self, and_true, true_and, and_false, false_and, true_implies, false_implies, implies_true, not_true_eq_false, not_false_eq_true, Int.reduceToNat, Int.reducePow, Int.reduceNeg, Int.reduceLT, Int.reduceLE, Int.reduceAdd, Int.reduceSub, Int.reduceMul, Int.reduceDiv, Int.reduceMod, Int.reduceEq, xA_1, xA_15, xA_255, xA_511, xA_65535, xA_32768]
      exact hk f1 g6 g7 F1
  · rw [if_neg c0] at g7 hk
    by_cases c1 : q = en
    · rw [if_pos c1] at hk
      simp (config := {contextual := true, maxSteps := 1000000}) (disch := omega) only [r83_0, r83_1, r83_2, r83_5, r83_6, r83_9, r83_10_T, r83_10_F, r83_10, r83_13, r83_14, r83_15, r83_18, r83_21, g6, c1, xAf_none, xAf_some, xu_app, Nat.reduceAdd, Nat.reduceSub, Nat.reduceEqDiff, Nat.reduceMul, reduceIte, and_self, and_true, true_and, and_false, false_and, true_implies, false_implies, implies_true, not_true_eq_false, not_false_eq_true, Int.reduceToNat, Int.reducePow, Int.reduceNeg, Int.reduceLT, Int.reduceLE, Int.reduceAdd, Int.reduceSub, Int.reduceMul, Int.reduceDiv, Int.reduceMod, Int.reduceEq, xA_1, xA_15, xA_255, xA_511, xA_65535, xA_32768]
      exact hk f1 g6 g7 F1
    · rw [if_neg c1] at hk
      simp (config := {contextual := true, maxSteps := 1000000}) (disch := omega) only [r83_0, r83_1, r83_2, r83_5, r83_6, r83_9, r83_10_T, r83_10_F, r83_10, r83_13, r83_14, r83_15, r83_18, r83_21, g6, g7, c1, s_fail0, xAf_none, xAf_some, xu_app, Nat.reduceAdd, Nat.reduceSub, Nat.reduceEqDiff, Nat.reduceMul, reduceIte, and_self, and_true, true_and, and_false, false_and, true_implies, false_implies, implies_true, not_true_eq_false, not_false_eq_true, Int.reduceToNat, Int.reducePow, Int.reduceNeg, Int.reduceLT, Int.reduceLE, Int.reduceAdd, Int.reduceSub, Int.reduceMul, Int.reduceDiv, Int.reduceMod, Int.reduceEq, xA_1, xA_15, xA_255, xA_511, xA_65535, xA_32768]
      exact hk _ g6 rfl (F1.trans (xFq.u (.inr (.inl rfl))))
theorem d_leave (h7 : ¬ f 20 7 = -1) (h0 : -1 ≤ f 20 7) (h1 : f 20 7 ≤ 100000) (h6 : 0 ≤ f 20 6) (h6' : f 20 6 ≤ 1200) (e0 : -1 ≤ en) (e1 : en ≤ 1200) (hd : 2 ≤ d) : xTC d 83 [.ref 20, .int (xI en)] (hh f a g) Q ↔ Q (hh f a g, .returned none) := by
  rw [e83]
  by_cases c1 : f 20 6 = en
  · simp (config := {contextual := true, maxSteps := 1000000}) (disch := omega) only [r83_0, r83_1, r83_2, r83_5, r83_6, r83_9, r83_10_T, r83_10_F, r83_10, r83_13, r83_14, r83_15, r83_18, r83_21, d_empty, c1, xAf_none, xAf_some, xu_app, Nat.reduceAdd, Nat.reduceSub, Nat.reduceEqDiff, Nat.reduceMul, reduceIte, and_self, and_true, true_and, and_false, false_and, true_implies, false_implies, implies_true, not_true_eq_false, not_false_eq_true, Int.reduceToNat, Int.reducePow, Int.reduceNeg, Int.reduceLT, Int.reduceLE, Int.reduceAdd, Int.reduceSub, Int.reduceMul, Int.reduceDiv, Int.reduceMod, Int.reduceEq, xA_1, xA_15, xA_255, xA_511, xA_65535, xA_32768]
  · simp (config := {contextual := true, maxSteps := 1000000}) (disch := omega) only [r83_0, r83_1, r83_2, r83_5, r83_6, r83_9, r83_10_T, r83_10_F, r83_10, r83_13, r83_14, r83_15, r83_18, r83_21, d_empty, c1, s_fail1, xAf_none, xAf_some, xu_app, Nat.reduceAdd, Nat.reduceSub, Nat.reduceEqDiff, Nat.reduceMul, reduceIte, and_self, and_true, true_and, and_false, false_and, true_implies, false_implies, implies_true, not_true_eq_false, not_false_eq_true, Int.reduceToNat, Int.reducePow, Int.reduceNeg, Int.reduceLT, Int.reduceLE, Int.reduceAdd, Int.reduceSub, Int.reduceMul, Int.reduceDiv, Int.reduceMod, Int.reduceEq, xA_1, xA_15, xA_255, xA_511, xA_65535, xA_32768]
set_option maxRecDepth 100000 in
theorem p_number (hF : ∀ j, 0 ≤ F j ∧ F j ≤ 255) (h9 : a 9 = F) (hen : en ≤ f 8 0) (hln : f 8 0 ≤ 1200) (h6 : f 20 6 = pl) (h7 : f 20 7 = -1) (p0 : 0 ≤ pl) (p1 : pl ≤ en) (i0 : 0 ≤ id) (i1 : id ≤ 255) (hn : n = 1 ∨ n = 2) (lo0 : -1000 ≤ lo) (lo1 : lo ≤ 100000) (hi0 : -1000 ≤ hi) (hi1 : hi ≤ 100000) (hd : 5 ≤ d)
    (hno : (nuF F id n lo hi en pl).1 = 1 → ∀ f' r, f' 20 7 = (nuF F id n lo hi en pl).2.1 → 0 ≤ f' 20 6 → f' 20 6 ≤ 1200 → xFq f f' → (r = lo ∨ 0 ≤ r ∧ r ≤ 65535) → Q (hh f' a g, .returned (some (.int (xI r)))))
    (hok : (nuF F id n lo hi en pl).1 = 0 → ∀ f', f' 20 7 = -1 → f' 20 6 = (nuF F id n lo hi en pl).2.1 → xFq f f' → Q (hh f' a g, .returned (some (.int (xI (nuF F id n lo hi en pl).2.2))))) : xTC d 85 [.ref 20, .int (xI id), .int (xI n), .int (xI lo), .int (xI hi), .int (xI en)] (hh f a g) Q := by
  have e9 : ∀ j, a 9 j = F j := fun j => by rw [h9]
  have heb := enF_bd (id := id) hF p1
  rw [e85]
  have hn01 : 1 ≤ n ∧ n ≤ 2 := by omega
  simp (config := {contextual := true, maxSteps := 1000000}) (disch := omega) only [r85_0, r85_1, r85_2, r85_4, r85_7, r85_9, r85_11, r85_12, r85_15, r85_16, r85_17_T, r85_17_F, r85_17, r85_20, r85_21, r85_22, r85_25, r85_28, r85_29, r85_32, r85_33_T, r85_33_F, r85_33, r85_36, r85_37, r85_38, r85_39, r85_40_T, r85_40_F, r85_40, r85_43, r85_44, r85_47, r85_48, r85_51, r85_54, r85_57, r85_58, r85_61, r85_62, r85_65, r85_68, r85_70, r85_72, r85_73_T, r85_73_F, r85_73, r85_76, r85_78, r85_80_T, r85_80_F, r85_80, r85_83, r85_84, r85_85, r85_88, r85_91, r85_92, r85_94, r85_97, r85_99, xAf_none, xAf_some, xu_app, Nat.reduceAdd, Nat.reduceSub, Nat.reduceEqDiff, Nat.reduceMul, reduceIte, and_self, and_true, true_and, and_false, false_and, true_implies, false_implies, implies_true, not_true_eq_false, not_false_eq_true, Int.reduceToNat, Int.reducePow, Int.reduceNeg, Int.reduceLT, Int.reduceLE, Int.reduceAdd, Int.reduceSub, Int.reduceMul, Int.reduceDiv, Int.reduceMod, Int.reduceEq, xA_1, xA_15, xA_255, xA_511, xA_65535, xA_32768]
  unfold nuF at hno hok
  refine p_enter hF h9 hen hln h6 h7 p0 p1 i0 i1 (by omega) (fun hf f1 r g7 g6 F1 hr => ?_) (fun hf f1 g7 g6 g9 F1 => ?_)
  · rw [if_pos hf] at hno hok
    rw [← g7] at hr
    have hn2 : ¬ f1 20 7 = -1 := by omega
    have hn3 : -1 ≤ f1 20 7 := by omega
    have hn4 : f1 20 7 ≤ 100000 := by omega
    have h67 : f1 20 6 = f1 20 7 := by rw [g6, g7]
    have hz : ¬ f1 20 7 - f1 20 7 = n := by omega
    subst hr
    simp (config := {contextual := true, maxSteps := 1000000}) (disch := omega) only [r85_0, r85_1, r85_2, r85_4, r85_7, r85_9, r85_11, r85_12, r85_15, r85_16, r85_17_T, r85_17_F, r85_17, r85_20, r85_21, r85_22, r85_25, r85_28, r85_29, r85_32, r85_33_T, r85_33_F, r85_33, r85_36, r85_37, r85_38, r85_39, r85_40_T, r85_40_F, r85_40, r85_43, r85_44, r85_47, r85_48, r85_51, r85_54, r85_57, r85_58, r85_61, r85_62, r85_65, r85_68, r85_70, r85_72, r85_73_T, r85_73_F, r85_73, r85_76, r85_78, r85_80_T, r85_80_F, r85_80, r85_83, r85_84, r85_85, r85_88, r85_91, r85_92, r85_94, r85_97, r85_99, h67, hz, s_fail1, hn2, xAf_none, xAf_some, xu_app, Nat.reduceAdd, Nat.reduceSub, Nat.reduceEqDiff, Nat.reduceMul, reduceIte, and_self, and_true, true_and, and_false, false_and, true_implies, false_implies, implies_true, not_true_eq_false, not_false_eq_true, Int.reduceToNat, Int.reducePow, Int.reduceNeg, Int.reduceLT, Int.reduceLE, Int.reduceAdd, Int.reduceSub, Int.reduceMul, Int.reduceDiv, Int.reduceMod, Int.reduceEq, xA_1, xA_15, xA_255, xA_511, xA_65535, xA_32768]
    exact hno rfl f1 lo g7 (by omega) (by omega) F1 (.inl rfl)
  · rw [if_neg (by omega)] at hno hok
    have heb' := heb.2.2.resolve_left (by omega)
    have e8 : f1 8 = f 8 := F1.1 8 (by decide)
    obtain ⟨at1, hat⟩ : ∃ at1, (enF F id en pl).2.1 = at1 := ⟨_, rfl⟩
    obtain ⟨e1, he1⟩ : ∃ e1, (enF F id en pl).2.2.1 = e1 := ⟨_, rfl⟩
    obtain ⟨sp, hsp⟩ : ∃ sp, (enF F id en pl).2.2.2 = sp := ⟨_, rfl⟩
    rw [hat, he1, hsp] at heb' hno hok
    rw [hat] at g6 heb
    rw [hsp] at g9
    rw [he1]
    by_cases c1 : e1 - at1 = n
    · rw [if_neg (fun z => z c1)] at hno hok
      obtain ⟨v, hv⟩ : ∃ v, nuV F n at1 = v := ⟨_, rfl⟩
      rw [hv] at hno hok
      have b1 := hF at1
      have b2 := hF (at1 + 1)
      have hv0 : 0 ≤ v ∧ v ≤ 65535 := by rw [← hv]; unfold nuV; split <;> omega
      have hback : ∀ l6 l7 : Value, l6 = .int (xI e1) → xT d 85 68 [.ref 20, .int (xI id), .int (xI n), .int (xI lo), .int (xI hi), .int (xI en), l6, l7] [.int (xI v)] (hh f1 a g) Q := fun l6 l7 hl6 => by
        subst hl6
        by_cases c2 : lo ≤ v ∧ v ≤ hi
        · rw [if_pos c2] at hno hok
          simp (config := {contextual := true, maxSteps := 1000000}) (disch := omega) only [r85_0, r85_1, r85_2, r85_4, r85_7, r85_9, r85_11, r85_12, r85_15, r85_16, r85_17_T, r85_17_F, r85_17, r85_20, r85_21, r85_22, r85_25, r85_28, r85_29, r85_32, r85_33_T, r85_33_F, r85_33, r85_36, r85_37, r85_38, r85_39, r85_40_T, r85_40_F, r85_40, r85_43, r85_44, r85_47, r85_48, r85_51, r85_54, r85_57, r85_58, r85_61, r85_62, r85_65, r85_68, r85_70, r85_72, r85_73_T, r85_73_F, r85_73, r85_76, r85_78, r85_80_T, r85_80_F, r85_80, r85_83, r85_84, r85_85, r85_88, r85_91, r85_92, r85_94, r85_97, r85_99, g6, xAf_none, xAf_some, xu_app, Nat.reduceAdd, Nat.reduceSub, Nat.reduceEqDiff, Nat.reduceMul, reduceIte, and_self, and_true, true_and, and_false, false_and, true_implies, false_implies, implies_true, not_true_eq_false, not_false_eq_true, Int.reduceToNat, Int.reducePow, Int.reduceNeg, Int.reduceLT, Int.reduceLE, Int.reduceAdd, Int.reduceSub, Int.reduceMul, Int.reduceDiv, Int.reduceMod, Int.reduceEq, xA_1, xA_15, xA_255, xA_511, xA_65535, xA_32768]
          exact hok rfl _ g7 rfl (F1.trans (xFq.u (.inl rfl)))
        · rw [if_neg c2] at hno hok
          by_cases c3 : lo ≤ v
          · simp (config := {contextual := true, maxSteps := 1000000}) (disch := omega) only [r85_0, r85_1, r85_2, r85_4, r85_7, r85_9, r85_11, r85_12, r85_15, r85_16, r85_17_T, r85_17_F, r85_17, r85_20, r85_21, r85_22, r85_25, r85_28, r85_29, r85_32, r85_33_T, r85_33_F, r85_33, r85_36, r85_37, r85_38, r85_39, r85_40_T, r85_40_F, r85_40, r85_43, r85_44, r85_47, r85_48, r85_51, r85_54, r85_57, r85_58, r85_61, r85_62, r85_65, r85_68, r85_70, r85_72, r85_73_T, r85_73_F, r85_73, r85_76, r85_78, r85_80_T, r85_80_F, r85_80, r85_83, r85_84, r85_85, r85_88, r85_91, r85_92, r85_94, r85_97, r85_99, g6, g7, s_fail0, xAf_none, xAf_some, xu_app, Nat.reduceAdd, Nat.reduceSub, Nat.reduceEqDiff, Nat.reduceMul, reduceIte, and_self, and_true, true_and, and_false, false_and, true_implies, false_implies, implies_true, not_true_eq_false, not_false_eq_true, Int.reduceToNat, Int.reducePow, Int.reduceNeg, Int.reduceLT, Int.reduceLE, Int.reduceAdd, Int.reduceSub, Int.reduceMul, Int.reduceDiv, Int.reduceMod, Int.reduceEq, xA_1, xA_15, xA_255, xA_511, xA_65535, xA_32768]
            exact hno rfl _ v rfl (by show 0 ≤ e1; omega) (by show e1 ≤ 1200; omega) ((F1.trans (xFq.u (.inr (.inl rfl)))).trans (xFq.u (.inl rfl))) (.inr hv0)
          · simp (config := {contextual := true, maxSteps := 1000000}) (disch := omega) only [r85_0, r85_1, r85_2, r85_4, r85_7, r85_9, r85_11, r85_12, r85_15, r85_16, r85_17_T, r85_17_F, r85_17, r85_20, r85_21, r85_22, r85_25, r85_28, r85_29, r85_32, r85_33_T, r85_33_F, r85_33, r85_36, r85_37, r85_38, r85_39, r85_40_T, r85_40_F, r85_40, r85_43, r85_44, r85_47, r85_48, r85_51, r85_54, r85_57, r85_58, r85_61, r85_62, r85_65, r85_68, r85_70, r85_72, r85_73_T, r85_73_F, r85_73, r85_76, r85_78, r85_80_T, r85_80_F, r85_80, r85_83, r85_84, r85_85, r85_88, r85_91, r85_92, r85_94, r85_97, r85_99, g6, g7, s_fail0, xAf_none, xAf_some, xu_app, Nat.reduceAdd, Nat.reduceSub, Nat.reduceEqDiff, Nat.reduceMul, reduceIte, and_self, and_true, true_and, and_false, false_and, true_implies, false_implies, implies_true, not_true_eq_false, not_false_eq_true, Int.reduceToNat, Int.reducePow, Int.reduceNeg, Int.reduceLT, Int.reduceLE, Int.reduceAdd, Int.reduceSub, Int.reduceMul, Int.reduceDiv, Int.reduceMod, Int.reduceEq, xA_1, xA_15, xA_255, xA_511, xA_65535, xA_32768]
            exact hno rfl _ v rfl (by show 0 ≤ e1; omega) (by show e1 ≤ 1200; omega) ((F1.trans (xFq.u (.inr (.inl rfl)))).trans (xFq.u (.inl rfl))) (.inr hv0)
      rcases hn with rfl | rfl
      · have hin : 0 ≤ at1 ∧ at1 < f1 8 0 := by rw [e8]; omega
        have hv' : F at1 = v := hv
        have hl0 : 0 ≤ f1 8 0 := by omega
        have hl1 : f1 8 0 ≤ 1200 := by rw [e8]; omega
        simp (config := {contextual := true, maxSteps := 1000000}) (disch := omega) only [r85_0, r85_1, r85_2, r85_4, r85_7, r85_9, r85_11, r85_12, r85_15, r85_16, r85_17_T, r85_17_F, r85_17, r85_20, r85_21, r85_22, r85_25, r85_28, r85_29, r85_32, r85_33_T, r85_33_F, r85_33, r85_36, r85_37, r85_38, r85_39, r85_40_T, r85_40_F, r85_40, r85_43, r85_44, r85_47, r85_48, r85_51, r85_54, r85_57, r85_58, r85_61, r85_62, r85_65, r85_70, r85_72, r85_73_T, r85_73_F, r85_73, r85_76, r85_78, r85_80_T, r85_80_F, r85_80, r85_83, r85_84, r85_85, r85_88, r85_91, r85_92, r85_94, r85_97, r85_99, g6, g7, c1, s_at8, hin, e9, hv', xAf_none, xAf_some, xu_app, Nat.reduceAdd, Nat.reduceSub, Nat.reduceEqDiff, Nat.reduceMul, reduceIte, and_self, and_true, true_and, and_false, false_and, true_implies, false_implies, implies_true, not_true_eq_false, not_false_eq_true, Int.reduceToNat, Int.reducePow, Int.reduceNeg, Int.reduceLT, Int.reduceLE, Int.reduceAdd, Int.reduceSub, Int.reduceMul, Int.reduceDiv, Int.reduceMod, Int.reduceEq, xA_1, xA_15, xA_255, xA_511, xA_65535, xA_32768]
        exact hback _ _ rfl
      · have hin : at1 + 1 < f1 8 0 := by rw [e8]; omega
        have hv' : F at1 * 256 + F (at1 + 1) = v := hv
        have hl1 : f1 8 0 ≤ 1200 := by rw [e8]; omega
        simp (config := {contextual := true, maxSteps := 1000000}) (disch := omega) only [r85_0, r85_1, r85_2, r85_4, r85_7, r85_9, r85_11, r85_12, r85_15, r85_16, r85_17_T, r85_17_F, r85_17, r85_20, r85_21, r85_22, r85_25, r85_28, r85_29, r85_32, r85_33_T, r85_33_F, r85_33, r85_36, r85_37, r85_38, r85_39, r85_40_T, r85_40_F, r85_40, r85_43, r85_44, r85_47, r85_48, r85_51, r85_54, r85_57, r85_58, r85_61, r85_62, r85_65, r85_70, r85_72, r85_73_T, r85_73_F, r85_73, r85_76, r85_78, r85_80_T, r85_80_F, r85_80, r85_83, r85_84, r85_85, r85_88, r85_91, r85_92, r85_94, r85_97, r85_99, g6, g7, c1, s_bigAt, e9, hv', xAf_none, xAf_some, xu_app, Nat.reduceAdd, Nat.reduceSub, Nat.reduceEqDiff, Nat.reduceMul, reduceIte, and_self, and_true, true_and, and_false, false_and, true_implies, false_implies, implies_true, not_true_eq_false, not_false_eq_true, Int.reduceToNat, Int.reducePow, Int.reduceNeg, Int.reduceLT, Int.reduceLE, Int.reduceAdd, Int.reduceSub, Int.reduceMul, Int.reduceDiv, Int.reduceMod, Int.reduceEq, xA_1, xA_15, xA_255, xA_511, xA_65535, xA_32768]
        exact hback _ _ rfl
    · rw [if_pos c1] at hno hok
      have hn1 : ¬ sp = -1 := by omega
      simp (config := {contextual := true, maxSteps := 1000000}) (disch := omega) only [r85_0, r85_1, r85_2, r85_4, r85_7, r85_9, r85_11, r85_12, r85_15, r85_16, r85_17_T, r85_17_F, r85_17, r85_20, r85_21, r85_22, r85_25, r85_28, r85_29, r85_32, r85_33_T, r85_33_F, r85_33, r85_36, r85_37, r85_38, r85_39, r85_40_T, r85_40_F, r85_40, r85_43, r85_44, r85_47, r85_48, r85_51, r85_54, r85_57, r85_58, r85_61, r85_62, r85_65, r85_68, r85_70, r85_72, r85_73_T, r85_73_F, r85_73, r85_76, r85_78, r85_80_T, r85_80_F, r85_80, r85_83, r85_84, r85_85, r85_88, r85_91, r85_92, r85_94, r85_97, r85_99, g6, g7, g9, c1, s_fail0, hn1, xAf_none, xAf_some, xu_app, Nat.reduceAdd, Nat.reduceSub, Nat.reduceEqDiff, Nat.reduceMul, reduceIte, and_self, and_true, true_and, and_false, false_and, true_implies, false_implies, implies_true, not_true_eq_false, not_false_eq_true, Int.reduceToNat, Int.reducePow, Int.reduceNeg, Int.reduceLT, Int.reduceLE, Int.reduceAdd, Int.reduceSub, Int.reduceMul, Int.reduceDiv, Int.reduceMod, Int.reduceEq, xA_1, xA_15, xA_255, xA_511, xA_65535, xA_32768]
      exact hno rfl _ lo rfl (by show 0 ≤ f1 20 6; omega) (by show f1 20 6 ≤ 1200; omega) (F1.trans (xFq.u (.inr (.inl rfl)))) (.inl rfl)
theorem d_number (h7 : ¬ f 20 7 = -1) (h0 : -1 ≤ f 20 7) (h1 : f 20 7 ≤ 100000) (h6 : 0 ≤ f 20 6) (h6' : f 20 6 ≤ 1200) (e0 : -1 ≤ en) (e1 : en ≤ 1200) (i0 : 0 ≤ id) (i1 : id ≤ 255) (hn : 1 ≤ n) (hn2 : n ≤ 2) (hF : ∀ j, 0 ≤ a 9 j ∧ a 9 j ≤ 255) (hl0 : 0 ≤ f 8 0) (hl1 : f 8 0 ≤ 1200) (hd : 3 ≤ d) : xTC d 85 [.ref 20, .int (xI id), .int (xI n), .int (xI lo), .int (xI hi), .int (xI en)] (hh f a g) Q ↔ Q (hh f a g, .returned (some (.int (xI lo)))) := by
  rw [e85]
  have hz : ¬ f 20 6 - f 20 6 = n := by omega
  simp (config := {contextual := true, maxSteps := 1000000}) (disch := omega) only [r85_0, r85_1, r85_2, r85_4, r85_7, r85_9, r85_11, r85_12, r85_15, r85_16, r85_17_T, r85_17_F, r85_17, r85_20, r85_21, r85_22, r85_25, r85_28, r85_29, r85_32, r85_33_T, r85_33_F, r85_33, r85_36, r85_37, r85_38, r85_39, r85_40_T, r85_40_F, r85_40, r85_43, r85_44, r85_47, r85_48, r85_51, r85_54, r85_57, r85_58, r85_61, r85_62, r85_65, r85_68, r85_70, r85_72, r85_73_T, r85_73_F, r85_73, r85_76, r85_78, r85_80_T, r85_80_F, r85_80, r85_83, r85_84, r85_85, r85_88, r85_91, r85_92, r85_94, r85_97, r85_99, d_enter (hF := hF), hz, s_fail1, h7, xAf_none, xAf_some, xu_app, Nat.reduceAdd, Nat.reduceSub, Nat.reduceEqDiff, Nat.reduceMul, reduceIte, and_self, and_true, true_and, and_false, false_and, true_implies, false_implies, implies_true, not_true_eq_false, not_false_eq_true, Int.reduceToNat, Int.reducePow, Int.reduceNeg, Int.reduceLT, Int.reduceLE, Int.reduceAdd, Int.reduceSub, Int.reduceMul, Int.reduceDiv, Int.reduceMod, Int.reduceEq, xA_1, xA_15, xA_255, xA_511, xA_65535, xA_32768]
end S76
