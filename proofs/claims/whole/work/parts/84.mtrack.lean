/-! THE MODEL READS THE TRACK -/
/-- the coding's number, as both ask for it -/
theorem nu84 {F : Int → Int} {te pl : Int} (hF : ∀ j, 0 ≤ F j ∧ F j ≤ 255) (h : pl ≤ te) : ((nuF F 84 1 0 255 te pl).1 = 1 → nuF F 84 1 1 19 te pl = nuF F 84 1 0 255 te pl) ∧ ((nuF F 84 1 0 255 te pl).1 = 0 → (1 ≤ (nuF F 84 1 0 255 te pl).2.2 ∧ (nuF F 84 1 0 255 te pl).2.2 ≤ 19 → nuF F 84 1 1 19 te pl = nuF F 84 1 0 255 te pl) ∧ (¬ (1 ≤ (nuF F 84 1 0 255 te pl).2.2 ∧ (nuF F 84 1 0 255 te pl).2.2 ≤ 19) → nuF F 84 1 1 19 te pl = (1, (nuF F 84 1 0 255 te pl).2.1 - 1, 0))) := by
  by_cases c0 : (enF F 84 te pl).1 = 1
  · have e1 : ∀ lo hi, nuF F 84 1 lo hi te pl = (1, (enF F 84 te pl).2.1, 0) := fun lo hi => by unfold nuF; rw [if_pos c0]
    rw [e1, e1]; exact ⟨fun _ => rfl, fun z => absurd (show (1 : Int) = 0 from z) (by decide)⟩
  · by_cases c1 : (enF F 84 te pl).2.2.1 - (enF F 84 te pl).2.1 = 1
    · have hb := hF (enF F 84 te pl).2.1
      have hv : nuV F 1 (enF F 84 te pl).2.1 = F (enF F 84 te pl).2.1 := rfl
      have e1 : nuF F 84 1 0 255 te pl = (0, (enF F 84 te pl).2.2.1, F (enF F 84 te pl).2.1) := by
        unfold nuF; rw [if_neg c0, if_neg (fun z => z c1), hv, if_pos hb]
      have e2 : 1 ≤ F (enF F 84 te pl).2.1 ∧ F (enF F 84 te pl).2.1 ≤ 19 → nuF F 84 1 1 19 te pl = (0, (enF F 84 te pl).2.2.1, F (enF F 84 te pl).2.1) := fun z => by
        unfold nuF; rw [if_neg c0, if_neg (fun z => z c1), hv, if_pos z]
      have e3 : ¬ (1 ≤ F (enF F 84 te pl).2.1 ∧ F (enF F 84 te pl).2.1 ≤ 19) → nuF F 84 1 1 19 te pl = (1, (enF F 84 te pl).2.1, 0) := fun z => by
        unfold nuF; rw [if_neg c0, if_neg (fun z => z c1), hv, if_neg z]
      rw [e1]
      refine ⟨fun z => absurd (show (0 : Int) = 1 from z) (by decide), fun _ => ⟨fun z => e2 z, fun z => ?_⟩⟩
      rw [e3 z]; dsimp only; congr 2; omega
    · have e1 : ∀ lo hi, nuF F 84 1 lo hi te pl = (1, (enF F 84 te pl).2.2.2, 0) := fun lo hi => by unfold nuF; rw [if_neg c0, if_pos c1]
      rw [e1, e1]; exact ⟨fun _ => rfl, fun z => absurd (show (1 : Int) = 0 from z) (by decide)⟩
section S84
variable {d : Nat} {Q : xm_H × Outcome → Prop} {g : xG} {f : Nat → Nat → Int} {a : Nat → Int → Int} {F : Int → Int} {ln be te pl : Int}
theorem xF12 {f f' : Nat → Nat → Int} {a : Nat → Int → Int} (h : xFM f a f' a) (h12 : f' 21 12 = f 21 12) : (∀ i, i ≠ 21 → f' i = f i) := h.1
set_option maxRecDepth 100000 in
set_option maxHeartbeats 2000000 in
/-- the track's numbers, and its end; what is behind it comes later -/
theorem p_mtrack (hF : ∀ j, 0 ≤ F j ∧ F j ≤ 255) (h24 : a 24 = F) (h7 : f 21 7 = ln) (hln : ln ≤ 1200) (h15 : f 21 15 = pl) (h16 : f 21 16 = 0) (p0 : 0 ≤ pl) (p1 : pl ≤ te) (hte : te ≤ be) (hbe : be ≤ ln) (hd : 6 ≤ d)
    (hno : (t2F F be te pl).1 = 1 → ∀ f', (f' 21 16 = 1 ∧ f' 21 15 = (t2F F be te pl).2.1) ∨ (f' 21 16 = 0 ∧ ∃ q, f' 21 15 = q ∧ 0 ≤ q ∧ q ≤ be ∧ (pas F be q).2 = 1 ∧ (pas F be q).1 = (t2F F be te pl).2.1) → 0 ≤ (t2F F be te pl).2.1 → (t2F F be te pl).2.1 ≤ 1200 → xFM f a f' a → f' 21 12 = f 21 12 → Q (hh f' a g, .returned none))
    (hok : ∀ p2 w h pn md sl, t2F F be te pl = (0, p2, w, h, pn, md, sl) → ∀ f' q, f' 21 16 = 0 → f' 21 15 = q → 0 ≤ q → q ≤ be → pas F be q = (p2, 0) → f' 21 9 = w → f' 21 10 = h → f' 21 11 = pn → f' 21 17 = md → f' 21 18 = sl → xFM f a f' a → f' 21 12 = f 21 12 → Q (hh f' a g, .returned none)) : xTC d 147 [.ref 21, .int (xI te)] (hh f a g) Q := by
  unfold t2F at hno hok
  have hb2 := nuF_bd (id := 176) (n := 1) (lo := 1) (hi := 6) (en := te) (pl := pl) hF p1
  have t0 : Int.tdiv 0 16 = 0 := rfl
  rw [e147]
  simp (config := {contextual := true, maxSteps := 1000000}) (disch := omega) only [r147_0, r147_1, r147_2, r147_5, r147_6, r147_7, r147_9, r147_12, r147_15, r147_16, r147_17, r147_20, r147_21, r147_22, r147_24, r147_27, r147_30, r147_31, r147_32, r147_34, r147_35, r147_36, r147_37, r147_40, r147_43, r147_44, r147_47_T, r147_47_F, r147_47, r147_50, r147_51, r147_54, r147_55_T, r147_55_F, r147_55, r147_58, r147_59, r147_60, r147_63, r147_64, r147_65, r147_68, r147_69, r147_70, r147_73, r147_74, r147_76, r147_77, r147_78, r147_80, r147_83, r147_84, r147_85, r147_86, r147_88, r147_89, r147_92, r147_93, r147_94, r147_96, r147_97, r147_100, r147_101, r147_104_T, r147_104_F, r147_104, r147_107, r147_108, r147_111, r147_112_T, r147_112_F, r147_112, r147_115, r147_116, r147_119, r147_120_T, r147_120_F, r147_120, r147_123, r147_124, r147_127, r147_128, r147_131_T, r147_131_F, r147_131, r147_134, r147_135, r147_136, r147_139, r147_140, r147_141, r147_144, r147_145, r147_146, r147_149, r147_150, r147_151, r147_154, xAf_none, xAf_some, xu_app, Nat.reduceAdd, Nat.reduceSub, Nat.reduceEqDiff, Nat.reduceMul, reduceIte, and_self, and_true, true_and, and_false, false_and, true_implies, false_implies, implies_true, not_true_eq_false, not_false_eq_true, Int.reduceToNat, Int.reducePow, Int.reduceNeg, Int.reduceLT, Int.reduceLE, Int.reduceAdd, Int.reduceSub, Int.reduceMul, Int.reduceDiv, Int.reduceMod, Int.reduceEq, xA_1, xA_15, xA_255, xA_511, xA_65535, xA_32768]
  refine p_mnumber (F := F) (pl := pl) hF h24 (by omega) (by omega) h15 h16 p0 p1 (by omega) (by omega) (by omega) (by omega) (by omega) (by omega) (by omega) (fun hf2 f2 g16 g15 F2 => ?_) (fun hf2 f2 g16 g15 F2 => ?_)
  · rw [if_pos hf2] at hno hok
    have D1 : ∀ (d : Nat) (id lo hi : Int) (Q : xm_H × Outcome → Prop), 2 ≤ d → (xTC d 146 [.ref 21, .int (xI id), .int (xI te), .int (xI lo), .int (xI hi)] (hh (xu f2 21 9 0) a g) Q ↔ Q (hh (xu f2 21 9 0) a g, .returned (some (.int (xI 0))))) := fun d id lo hi Q hd => d_mnumber (f := xu f2 21 9 0) g16 hd
    have D2 : ∀ (d : Nat) (id lo hi : Int) (Q : xm_H × Outcome → Prop), 2 ≤ d → (xTC d 146 [.ref 21, .int (xI id), .int (xI te), .int (xI lo), .int (xI hi)] (hh (xu (xu f2 21 9 0) 21 10 0) a g) Q ↔ Q (hh (xu (xu f2 21 9 0) 21 10 0) a g, .returned (some (.int (xI 0))))) := fun d id lo hi Q hd => d_mnumber (f := xu (xu f2 21 9 0) 21 10 0) g16 hd
    have D3 : ∀ (d : Nat) (id lo hi : Int) (Q : xm_H × Outcome → Prop), 2 ≤ d → (xTC d 146 [.ref 21, .int (xI id), .int (xI te), .int (xI lo), .int (xI hi)] (hh (xu (xu (xu f2 21 9 0) 21 10 0) 21 11 0) a g) Q ↔ Q (hh (xu (xu (xu f2 21 9 0) 21 10 0) 21 11 0) a g, .returned (some (.int (xI 0))))) := fun d id lo hi Q hd => d_mnumber (f := xu (xu (xu f2 21 9 0) 21 10 0) 21 11 0) g16 hd
    have D4 : ∀ (d : Nat) (Q : xm_H × Outcome → Prop), 1 ≤ d → (xTC d 145 [.ref 21, .int (xI te)] (hh (xu (xu (xu (xu (xu f2 21 9 0) 21 10 0) 21 11 0) 21 17 0) 21 18 0) a g) Q ↔ Q (hh (xu (xu (xu (xu (xu f2 21 9 0) 21 10 0) 21 11 0) 21 17 0) 21 18 0) a g, .returned none)) := fun d Q hd => d_mleave (f := xu (xu (xu (xu (xu f2 21 9 0) 21 10 0) 21 11 0) 21 17 0) 21 18 0) g16 hd
    simp (config := {contextual := true, maxSteps := 1000000}) (disch := omega) only [r147_0, r147_1, r147_2, r147_5, r147_6, r147_7, r147_9, r147_12, r147_15, r147_16, r147_17, r147_20, r147_21, r147_22, r147_24, r147_27, r147_30, r147_31, r147_32, r147_34, r147_35, r147_36, r147_37, r147_40, r147_43, r147_44, r147_47_T, r147_47_F, r147_47, r147_50, r147_51, r147_54, r147_55_T, r147_55_F, r147_55, r147_58, r147_59, r147_60, r147_63, r147_64, r147_65, r147_68, r147_69, r147_70, r147_73, r147_74, r147_76, r147_77, r147_78, r147_80, r147_83, r147_84, r147_85, r147_86, r147_88, r147_89, r147_92, r147_93, r147_94, r147_96, r147_97, r147_100, r147_101, r147_104_T, r147_104_F, r147_104, r147_107, r147_108, r147_111, r147_112_T, r147_112_F, r147_112, r147_115, r147_116, r147_119, r147_120_T, r147_120_F, r147_120, r147_123, r147_124, r147_127, r147_128, r147_131_T, r147_131_F, r147_131, r147_134, r147_135, r147_136, r147_139, r147_140, r147_141, r147_144, r147_145, r147_146, r147_149, r147_150, r147_151, r147_154, g16, D1, D2, D3, D4, xAf_none, xAf_some, xu_app, Nat.reduceAdd, Nat.reduceSub, Nat.reduceEqDiff, Nat.reduceMul, reduceIte, and_self, and_true, true_and, and_false, false_and, true_implies, false_implies, implies_true, not_true_eq_false, not_false_eq_true, Int.reduceToNat, Int.reducePow, Int.reduceNeg, Int.reduceLT, Int.reduceLE, Int.reduceAdd, Int.reduceSub, Int.reduceMul, Int.reduceDiv, Int.reduceMod, Int.reduceEq, xA_1, xA_15, xA_255, xA_511, xA_65535, xA_32768]
    exact hno rfl _ (.inl ⟨g16, g15⟩) (by dsimp only; omega) (by dsimp only; omega) (((((F2.M.trans (xFM.u (by omega))).trans (xFM.u (by omega))).trans (xFM.u (by omega))).trans (xFM.u (by omega))).trans (xFM.u (by omega))) (F2.2 12 (by decide) (by decide))
  · rw [if_neg (by omega)] at hno hok
    have hb2' := hb2.2.2.resolve_left (by omega)
    obtain ⟨a2, ha2⟩ : ∃ a2, (nuF F 176 1 1 6 te pl).2.1 = a2 := ⟨_, rfl⟩
    obtain ⟨w, hw⟩ : ∃ w, (nuF F 176 1 1 6 te pl).2.2 = w := ⟨_, rfl⟩
    rw [ha2, hw] at hno hok hb2'
    rw [ha2] at g15 hb2
    rw [hw]
    have e72 : f2 21 7 = ln := by rw [F2.2 7 (by decide) (by decide)]; exact h7
    unfold t3F at hno hok
    have hb3 := nuF_bd (id := 186) (n := 1) (lo := 1) (hi := 6) (en := te) (pl := a2) hF (by omega)
    simp (config := {contextual := true, maxSteps := 1000000}) (disch := omega) only [r147_0, r147_1, r147_2, r147_5, r147_6, r147_7, r147_9, r147_12, r147_15, r147_16, r147_17, r147_20, r147_21, r147_22, r147_24, r147_27, r147_30, r147_31, r147_32, r147_34, r147_35, r147_36, r147_37, r147_40, r147_43, r147_44, r147_47_T, r147_47_F, r147_47, r147_50, r147_51, r147_54, r147_55_T, r147_55_F, r147_55, r147_58, r147_59, r147_60, r147_63, r147_64, r147_65, r147_68, r147_69, r147_70, r147_73, r147_74, r147_76, r147_77, r147_78, r147_80, r147_83, r147_84, r147_85, r147_86, r147_88, r147_89, r147_92, r147_93, r147_94, r147_96, r147_97, r147_100, r147_101, r147_104_T, r147_104_F, r147_104, r147_107, r147_108, r147_111, r147_112_T, r147_112_F, r147_112, r147_115, r147_116, r147_119, r147_120_T, r147_120_F, r147_120, r147_123, r147_124, r147_127, r147_128, r147_131_T, r147_131_F, r147_131, r147_134, r147_135, r147_136, r147_139, r147_140, r147_141, r147_144, r147_145, r147_146, r147_149, r147_150, r147_151, r147_154, xAf_none, xAf_some, xu_app, Nat.reduceAdd, Nat.reduceSub, Nat.reduceEqDiff, Nat.reduceMul, reduceIte, and_self, and_true, true_and, and_false, false_and, true_implies, false_implies, implies_true, not_true_eq_false, not_false_eq_true, Int.reduceToNat, Int.reducePow, Int.reduceNeg, Int.reduceLT, Int.reduceLE, Int.reduceAdd, Int.reduceSub, Int.reduceMul, Int.reduceDiv, Int.reduceMod, Int.reduceEq, xA_1, xA_15, xA_255, xA_511, xA_65535, xA_32768]
    refine p_mnumber (F := F) (pl := a2) (f := xu f2 21 9 w) hF h24 (by show te ≤ f2 21 7; omega) (by show f2 21 7 ≤ 1200; omega) g15 g16 (by omega) (by omega) (by omega) (by omega) (by omega) (by omega) (by omega) (by omega) (by omega) (fun hf3 f3 g163 g153 F3 => ?_) (fun hf3 f3 g163 g153 F3 => ?_)
    · rw [if_pos hf3] at hno hok
      have D2 : ∀ (d : Nat) (id lo hi : Int) (Q : xm_H × Outcome → Prop), 2 ≤ d → (xTC d 146 [.ref 21, .int (xI id), .int (xI te), .int (xI lo), .int (xI hi)] (hh (xu f3 21 10 0) a g) Q ↔ Q (hh (xu f3 21 10 0) a g, .returned (some (.int (xI 0))))) := fun d id lo hi Q hd => d_mnumber (f := xu f3 21 10 0) g163 hd
      have D3 : ∀ (d : Nat) (id lo hi : Int) (Q : xm_H × Outcome → Prop), 2 ≤ d → (xTC d 146 [.ref 21, .int (xI id), .int (xI te), .int (xI lo), .int (xI hi)] (hh (xu (xu f3 21 10 0) 21 11 0) a g) Q ↔ Q (hh (xu (xu f3 21 10 0) 21 11 0) a g, .returned (some (.int (xI 0))))) := fun d id lo hi Q hd => d_mnumber (f := xu (xu f3 21 10 0) 21 11 0) g163 hd
      have D4 : ∀ (d : Nat) (Q : xm_H × Outcome → Prop), 1 ≤ d → (xTC d 145 [.ref 21, .int (xI te)] (hh (xu (xu (xu (xu f3 21 10 0) 21 11 0) 21 17 0) 21 18 0) a g) Q ↔ Q (hh (xu (xu (xu (xu f3 21 10 0) 21 11 0) 21 17 0) 21 18 0) a g, .returned none)) := fun d Q hd => d_mleave (f := xu (xu (xu (xu f3 21 10 0) 21 11 0) 21 17 0) 21 18 0) g163 hd
      simp (config := {contextual := true, maxSteps := 1000000}) (disch := omega) only [r147_0, r147_1, r147_2, r147_5, r147_6, r147_7, r147_9, r147_12, r147_15, r147_16, r147_17, r147_20, r147_21, r147_22, r147_24, r147_27, r147_30, r147_31, r147_32, r147_34, r147_35, r147_36, r147_37, r147_40, r147_43, r147_44, r147_47_T, r147_47_F, r147_47, r147_50, r147_51, r147_54, r147_55_T, r147_55_F, r147_55, r147_58, r147_59, r147_60, r147_63, r147_64, r147_65, r147_68, r147_69, r147_70, r147_73, r147_74, r147_76, r147_77, r147_78, r147_80, r147_83, r147_84, r147_85, r147_86, r147_88, r147_89, r147_92, r147_93, r147_94, r147_96, r147_97, r147_100, r147_101, r147_104_T, r147_104_F, r147_104, r147_107, r147_108, r147_111, r147_112_T, r147_112_F, r147_112, r147_115, r147_116, r147_119, r147_120_T, r147_120_F, r147_120, r147_123, r147_124, r147_127, r147_128, r147_131_T, r147_131_F, r147_131, r147_134, r147_135, r147_136, r147_139, r147_140, r147_141, r147_144, r147_145, r147_146, r147_149, r147_150, r147_151, r147_154, g163, D2, D3, D4, xAf_none, xAf_some, xu_app, Nat.reduceAdd, Nat.reduceSub, Nat.reduceEqDiff, Nat.reduceMul, reduceIte, and_self, and_true, true_and, and_false, false_and, true_implies, false_implies, implies_true, not_true_eq_false, not_false_eq_true, Int.reduceToNat, Int.reducePow, Int.reduceNeg, Int.reduceLT, Int.reduceLE, Int.reduceAdd, Int.reduceSub, Int.reduceMul, Int.reduceDiv, Int.reduceMod, Int.reduceEq, xA_1, xA_15, xA_255, xA_511, xA_65535, xA_32768]
      exact hno rfl _ (.inl ⟨g163, g153⟩) (by dsimp only; omega) (by dsimp only; omega) ((((((F2.M.trans (xFM.u (by omega))).trans F3.M).trans (xFM.u (by omega))).trans (xFM.u (by omega))).trans (xFM.u (by omega))).trans (xFM.u (by omega))) ((F3.2 12 (by decide) (by decide)).trans (F2.2 12 (by decide) (by decide)))
    · rw [if_neg (by omega)] at hno hok
      have hb3' := hb3.2.2.resolve_left (by omega)
      obtain ⟨a3, ha3⟩ : ∃ a3, (nuF F 186 1 1 6 te a2).2.1 = a3 := ⟨_, rfl⟩
      obtain ⟨h, hh3⟩ : ∃ h, (nuF F 186 1 1 6 te a2).2.2 = h := ⟨_, rfl⟩
      rw [ha3, hh3] at hno hok hb3'
      rw [ha3] at g153 hb3
      rw [hh3]
      have e73 : f3 21 7 = ln := by rw [F3.2 7 (by decide) (by decide)]; exact e72
      have e93 : f3 21 9 = w := by rw [F3.2 9 (by decide) (by decide)]; rfl
      unfold t4F at hno hok
      have hb4 := nuF_bd (id := 83) (n := 1) (lo := 1) (hi := 3) (en := te) (pl := a3) hF (by omega)
      have FM3 : xFM f a (xu f3 21 10 h) a := ((F2.M.trans (xFM.u (by omega))).trans F3.M).trans (xFM.u (by omega))
      have e123 : f3 21 12 = f 21 12 := (F3.2 12 (by decide) (by decide)).trans (F2.2 12 (by decide) (by decide))
      simp (config := {contextual := true, maxSteps := 1000000}) (disch := omega) only [r147_0, r147_1, r147_2, r147_5, r147_6, r147_7, r147_9, r147_12, r147_15, r147_16, r147_17, r147_20, r147_21, r147_22, r147_24, r147_27, r147_30, r147_31, r147_32, r147_34, r147_35, r147_36, r147_37, r147_40, r147_43, r147_44, r147_47_T, r147_47_F, r147_47, r147_50, r147_51, r147_54, r147_55_T, r147_55_F, r147_55, r147_58, r147_59, r147_60, r147_63, r147_64, r147_65, r147_68, r147_69, r147_70, r147_73, r147_74, r147_76, r147_77, r147_78, r147_80, r147_83, r147_84, r147_85, r147_86, r147_88, r147_89, r147_92, r147_93, r147_94, r147_96, r147_97, r147_100, r147_101, r147_104_T, r147_104_F, r147_104, r147_107, r147_108, r147_111, r147_112_T, r147_112_F, r147_112, r147_115, r147_116, r147_119, r147_120_T, r147_120_F, r147_120, r147_123, r147_124, r147_127, r147_128, r147_131_T, r147_131_F, r147_131, r147_134, r147_135, r147_136, r147_139, r147_140, r147_141, r147_144, r147_145, r147_146, r147_149, r147_150, r147_151, r147_154, xAf_none, xAf_some, xu_app, Nat.reduceAdd, Nat.reduceSub, Nat.reduceEqDiff, Nat.reduceMul, reduceIte, and_self, and_true, true_and, and_false, false_and, true_implies, false_implies, implies_true, not_true_eq_false, not_false_eq_true, Int.reduceToNat, Int.reducePow, Int.reduceNeg, Int.reduceLT, Int.reduceLE, Int.reduceAdd, Int.reduceSub, Int.reduceMul, Int.reduceDiv, Int.reduceMod, Int.reduceEq, xA_1, xA_15, xA_255, xA_511, xA_65535, xA_32768]
      refine p_mnumber (F := F) (pl := a3) (f := xu f3 21 10 h) hF h24 (by show te ≤ f3 21 7; omega) (by show f3 21 7 ≤ 1200; omega) g153 g163 (by omega) (by omega) (by omega) (by omega) (by omega) (by omega) (by omega) (by omega) (by omega) (fun hf4 f4 g164 g154 F4 => ?_) (fun hf4 f4 g164 g154 F4 => ?_)
      · rw [if_pos hf4] at hno hok
        have D3 : ∀ (d : Nat) (id lo hi : Int) (Q : xm_H × Outcome → Prop), 2 ≤ d → (xTC d 146 [.ref 21, .int (xI id), .int (xI te), .int (xI lo), .int (xI hi)] (hh (xu f4 21 11 0) a g) Q ↔ Q (hh (xu f4 21 11 0) a g, .returned (some (.int (xI 0))))) := fun d id lo hi Q hd => d_mnumber (f := xu f4 21 11 0) g164 hd
        have D4 : ∀ (d : Nat) (Q : xm_H × Outcome → Prop), 1 ≤ d → (xTC d 145 [.ref 21, .int (xI te)] (hh (xu (xu (xu f4 21 11 0) 21 17 0) 21 18 0) a g) Q ↔ Q (hh (xu (xu (xu f4 21 11 0) 21 17 0) 21 18 0) a g, .returned none)) := fun d Q hd => d_mleave (f := xu (xu (xu f4 21 11 0) 21 17 0) 21 18 0) g164 hd
        simp (config := {contextual := true, maxSteps := 1000000}) (disch := omega) only [r147_0, r147_1, r147_2, r147_5, r147_6, r147_7, r147_9, r147_12, r147_15, r147_16, r147_17, r147_20, r147_21, r147_22, r147_24, r147_27, r147_30, r147_31, r147_32, r147_34, r147_35, r147_36, r147_37, r147_40, r147_43, r147_44, r147_47_T, r147_47_F, r147_47, r147_50, r147_51, r147_54, r147_55_T, r147_55_F, r147_55, r147_58, r147_59, r147_60, r147_63, r147_64, r147_65, r147_68, r147_69, r147_70, r147_73, r147_74, r147_76, r147_77, r147_78, r147_80, r147_83, r147_84, r147_85, r147_86, r147_88, r147_89, r147_92, r147_93, r147_94, r147_96, r147_97, r147_100, r147_101, r147_104_T, r147_104_F, r147_104, r147_107, r147_108, r147_111, r147_112_T, r147_112_F, r147_112, r147_115, r147_116, r147_119, r147_120_T, r147_120_F, r147_120, r147_123, r147_124, r147_127, r147_128, r147_131_T, r147_131_F, r147_131, r147_134, r147_135, r147_136, r147_139, r147_140, r147_141, r147_144, r147_145, r147_146, r147_149, r147_150, r147_151, r147_154, g164, D3, D4, xAf_none, xAf_some, xu_app, Nat.reduceAdd, Nat.reduceSub, Nat.reduceEqDiff, Nat.reduceMul, reduceIte, and_self, and_true, true_and, and_false, false_and, true_implies, false_implies, implies_true, not_true_eq_false, not_false_eq_true, Int.reduceToNat, Int.reducePow, Int.reduceNeg, Int.reduceLT, Int.reduceLE, Int.reduceAdd, Int.reduceSub, Int.reduceMul, Int.reduceDiv, Int.reduceMod, Int.reduceEq, xA_1, xA_15, xA_255, xA_511, xA_65535, xA_32768]
        exact hno rfl _ (.inl ⟨g164, g154⟩) (by dsimp only; omega) (by dsimp only; omega) ((((FM3.trans F4.M).trans (xFM.u (by omega))).trans (xFM.u (by omega))).trans (xFM.u (by omega))) ((F4.2 12 (by decide) (by decide)).trans e123)
      · rw [if_neg (by omega)] at hno hok
        have hb4' := hb4.2.2.resolve_left (by omega)
        obtain ⟨a4, ha4⟩ : ∃ a4, (nuF F 83 1 1 3 te a3).2.1 = a4 := ⟨_, rfl⟩
        obtain ⟨pn, hpn4⟩ : ∃ pn, (nuF F 83 1 1 3 te a3).2.2 = pn := ⟨_, rfl⟩
        have he4 := enF_bd (id := 83) (en := te) (pl := a3) hF (by omega)
        rw [ha4, hpn4] at hno hok hb4'
        rw [ha4] at g154 hb4
        rw [hpn4]
        have e74 : f4 21 7 = ln := by rw [F4.2 7 (by decide) (by decide)]; exact e73
        have e94 : f4 21 9 = w := by rw [F4.2 9 (by decide) (by decide)]; exact e93
        have e104 : f4 21 10 = h := by rw [F4.2 10 (by decide) (by decide)]; rfl
        have e124 : f4 21 12 = f 21 12 := (F4.2 12 (by decide) (by decide)).trans e123
        have FM4 : xFM f a (xu f4 21 11 pn) a := (FM3.trans F4.M).trans (xFM.u (by omega))
        by_cases cp : pn = 1 ∨ pn = 3
        · rw [if_neg (fun z => z cp)] at hno hok
          have cp2 : ¬ pn = 2 := by omega
          unfold t5F at hno hok
          have hb5 := nuF_bd (id := 84) (n := 1) (lo := 0) (hi := 255) (en := te) (pl := a4) hF (by omega)
          have hb5m := nuF_bd (id := 84) (n := 1) (lo := 1) (hi := 19) (en := te) (pl := a4) hF (by omega)
          have h84 := nu84 (te := te) (pl := a4) hF (by omega)
          have he5 := enF_bd (id := 84) (en := te) (pl := a4) hF (by omega)
          -- the coding fails, whyever
          have hbad : ∀ (f5 : Nat → Nat → Int) (o : Int), f5 21 16 = 1 → f5 21 15 = o → 0 ≤ o → o ≤ 1200 → xFx (xu f4 21 11 pn) f5 → (∀ f', (f' 21 16 = 1 ∧ f' 21 15 = o) → xFM f a f' a → f' 21 12 = f 21 12 → Q (hh f' a g, .returned none)) → xAf d 147 80 [.ref 21, .int (xI te), .null] [] Q (hh f5 a g, .returned (some (.int (xI 0)))) := fun f5 o g165 g155 o0 o1 F5 hfin => by
            have D4 : ∀ (d : Nat) (Q : xm_H × Outcome → Prop), 1 ≤ d → (xTC d 145 [.ref 21, .int (xI te)] (hh (xu (xu f5 21 17 0) 21 18 0) a g) Q ↔ Q (hh (xu (xu f5 21 17 0) 21 18 0) a g, .returned none)) := fun d Q hd => d_mleave (f := xu (xu f5 21 17 0) 21 18 0) g165 hd
            simp (config := {contextual := true, maxSteps := 1000000}) (disch := omega) only [r147_0, r147_1, r147_2, r147_5, r147_6, r147_7, r147_9, r147_12, r147_15, r147_16, r147_17, r147_20, r147_21, r147_22, r147_24, r147_27, r147_30, r147_31, r147_32, r147_34, r147_35, r147_36, r147_37, r147_40, r147_43, r147_44, r147_47_T, r147_47_F, r147_47, r147_50, r147_51, r147_54, r147_55_T, r147_55_F, r147_55, r147_58, r147_59, r147_60, r147_63, r147_64, r147_65, r147_68, r147_69, r147_70, r147_73, r147_74, r147_76, r147_77, r147_78, r147_80, r147_83, r147_84, r147_85, r147_86, r147_88, r147_89, r147_92, r147_93, r147_94, r147_96, r147_97, r147_100, r147_101, r147_104_T, r147_104_F, r147_104, r147_107, r147_108, r147_111, r147_112_T, r147_112_F, r147_112, r147_115, r147_116, r147_119, r147_120_T, r147_120_F, r147_120, r147_123, r147_124, r147_127, r147_128, r147_131_T, r147_131_F, r147_131, r147_134, r147_135, r147_136, r147_139, r147_140, r147_141, r147_144, r147_145, r147_146, r147_149, r147_150, r147_151, r147_154, g165, D4, xAf_none, xAf_some, xu_app, Nat.reduceAdd, Nat.reduceSub, Nat.reduceEqDiff, Nat.reduceMul, reduceIte, and_self, and_true, true_and, and_false, false_and, true_implies, false_implies, implies_true, not_true_eq_false, not_false_eq_true, Int.reduceToNat, Int.reducePow, Int.reduceNeg, Int.reduceLT, Int.reduceLE, Int.reduceAdd, Int.reduceSub, Int.reduceMul, Int.reduceDiv, Int.reduceMod, Int.reduceEq, xA_1, xA_15, xA_255, xA_511, xA_65535, xA_32768]
            exact hfin _ ⟨g165, g155⟩ ((FM4.trans F5.M).trans ((xFM.u (by omega)).trans (xFM.u (by omega)))) ((F5.2 12 (by decide) (by decide)).trans e124)
          simp (config := {contextual := true, maxSteps := 1000000}) (disch := omega) only [r147_0, r147_1, r147_2, r147_5, r147_6, r147_7, r147_9, r147_12, r147_15, r147_16, r147_17, r147_20, r147_21, r147_22, r147_24, r147_27, r147_30, r147_31, r147_32, r147_34, r147_35, r147_36, r147_37, r147_40, r147_43, r147_44, r147_47_T, r147_47_F, r147_47, r147_50, r147_51, r147_54, r147_55_T, r147_55_F, r147_55, r147_58, r147_59, r147_60, r147_63, r147_64, r147_65, r147_68, r147_69, r147_70, r147_73, r147_74, r147_76, r147_77, r147_78, r147_80, r147_83, r147_84, r147_85, r147_86, r147_88, r147_89, r147_92, r147_93, r147_94, r147_96, r147_97, r147_100, r147_101, r147_104_T, r147_104_F, r147_104, r147_107, r147_108, r147_111, r147_112_T, r147_112_F, r147_112, r147_115, r147_116, r147_119, r147_120_T, r147_120_F, r147_120, r147_123, r147_124, r147_127, r147_128, r147_131_T, r147_131_F, r147_131, r147_134, r147_135, r147_136, r147_139, r147_140, r147_141, r147_144, r147_145, r147_146, r147_149, r147_150, r147_151, r147_154, g164, cp2, xAf_none, xAf_some, xu_app, Nat.reduceAdd, Nat.reduceSub, Nat.reduceEqDiff, Nat.reduceMul, reduceIte, and_self, and_true, true_and, and_false, false_and, true_implies, false_implies, implies_true, not_true_eq_false, not_false_eq_true, Int.reduceToNat, Int.reducePow, Int.reduceNeg, Int.reduceLT, Int.reduceLE, Int.reduceAdd, Int.reduceSub, Int.reduceMul, Int.reduceDiv, Int.reduceMod, Int.reduceEq, xA_1, xA_15, xA_255, xA_511, xA_65535, xA_32768]
          refine p_mnumber (F := F) (pl := a4) (f := xu f4 21 11 pn) hF h24 (by show te ≤ f4 21 7; omega) (by show f4 21 7 ≤ 1200; omega) g154 g164 (by omega) (by omega) (by omega) (by omega) (by omega) (by omega) (by omega) (by omega) (by omega) (fun hf5 f5 g165 g155 F5 => ?_) (fun hf5 f5 g165 g155 F5 => ?_)
          · -- refused: so is it there
            by_cases c5 : (nuF F 84 1 0 255 te a4).1 = 1
            · rw [if_pos c5] at hno hok
              rw [h84.1 c5] at g155
              exact hbad f5 _ g165 g155 (by omega) (by omega) F5 fun f' hD FM e12 => hno rfl f' (.inl hD) (by dsimp only; omega) (by dsimp only; omega) FM e12
            · have c5' : (nuF F 84 1 0 255 te a4).1 = 0 := by omega
              have hb5' := hb5.2.2.resolve_left c5
              rw [if_neg c5] at hno hok
              by_cases cv : 1 ≤ (nuF F 84 1 0 255 te a4).2.2 ∧ (nuF F 84 1 0 255 te a4).2.2 ≤ 19
              · rw [(h84.2 c5').1 cv] at hf5; omega
              · rw [(h84.2 c5').2 cv] at g155
                dsimp only at g155
                have hncod : ¬ (((nuF F 84 1 0 255 te a4).2.2 / 16 = 0 ∨ (nuF F 84 1 0 255 te a4).2.2 / 16 = 1) ∧ 1 ≤ (nuF F 84 1 0 255 te a4).2.2 % 16 ∧ (nuF F 84 1 0 255 te a4).2.2 % 16 ≤ 3 ∧ (nuF F 84 1 0 255 te a4).2.2 % 16 ≤ h) := by omega
                rw [if_pos hncod] at hno hok
                exact hbad f5 _ g165 g155 (by omega) (by omega) F5 fun f' hD FM e12 => hno rfl f' (.inl hD) (by dsimp only; omega) (by dsimp only; omega) FM e12
          · have c5 : (nuF F 84 1 0 255 te a4).1 = 0 := by
              rcases hb5.2.2 with z | z
              · rw [h84.1 z] at hf5; omega
              · exact z.1
            have cv : 1 ≤ (nuF F 84 1 0 255 te a4).2.2 ∧ (nuF F 84 1 0 255 te a4).2.2 ≤ 19 := by
              by_cases cv : 1 ≤ (nuF F 84 1 0 255 te a4).2.2 ∧ (nuF F 84 1 0 255 te a4).2.2 ≤ 19
              · exact cv
              · rw [(h84.2 c5).2 cv] at hf5; exact absurd (show (1 : Int) = 0 from hf5) (by decide)
            rw [(h84.2 c5).1 cv] at g155 ⊢
            have hb5' := hb5.2.2.resolve_left (by omega)
            rw [if_neg (by omega)] at hno hok
            obtain ⟨a5, ha5⟩ : ∃ a5, (nuF F 84 1 0 255 te a4).2.1 = a5 := ⟨_, rfl⟩
            obtain ⟨v, hv5⟩ : ∃ v, (nuF F 84 1 0 255 te a4).2.2 = v := ⟨_, rfl⟩
            rw [ha5, hv5] at hno hok hb5'
            rw [ha5] at g155 hb5
            rw [hv5] at cv ⊢
            have e75 : f5 21 7 = ln := by rw [F5.2 7 (by decide) (by decide)]; exact e74
            have e95 : f5 21 9 = w := by rw [F5.2 9 (by decide) (by decide)]; exact e94
            have e105 : f5 21 10 = h := by rw [F5.2 10 (by decide) (by decide)]; exact e104
            have e115 : f5 21 11 = pn := by rw [F5.2 11 (by decide) (by decide)]; rfl
            have e125 : f5 21 12 = f 21 12 := (F5.2 12 (by decide) (by decide)).trans e124
            have FM5 : xFM f a (xu (xu f5 21 17 (v / 16)) 21 18 (v % 16)) a := ((FM4.trans F5.M).trans (xFM.u (by omega))).trans (xFM.u (by omega))
            by_cases cc : (v / 16 = 0 ∨ v / 16 = 1) ∧ 1 ≤ v % 16 ∧ v % 16 ≤ 3 ∧ v % 16 ≤ h
            · rw [if_neg (fun z => z cc)] at hno hok
              have cc1 := cc.2.1
              have cc2 := cc.2.2.1
              have cc3 := cc.2.2.2
              unfold t6F at hno hok
              have hb6 := lvF_bd (en := te) (pl := a5) hF (by omega)
              simp (config := {contextual := true, maxSteps := 1000000}) (disch := omega) only [r147_0, r147_1, r147_2, r147_5, r147_6, r147_7, r147_9, r147_12, r147_15, r147_16, r147_17, r147_20, r147_21, r147_22, r147_24, r147_27, r147_30, r147_31, r147_32, r147_34, r147_35, r147_36, r147_37, r147_40, r147_43, r147_44, r147_47_T, r147_47_F, r147_47, r147_50, r147_51, r147_54, r147_55_T, r147_55_F, r147_55, r147_58, r147_59, r147_60, r147_63, r147_64, r147_65, r147_68, r147_69, r147_70, r147_73, r147_74, r147_76, r147_77, r147_78, r147_80, r147_83, r147_84, r147_85, r147_86, r147_88, r147_89, r147_92, r147_93, r147_94, r147_96, r147_97, r147_100, r147_101, r147_104_T, r147_104_F, r147_104, r147_107, r147_108, r147_111, r147_112_T, r147_112_F, r147_112, r147_115, r147_116, r147_119, r147_120_T, r147_120_F, r147_120, r147_123, r147_124, r147_127, r147_128, r147_131_T, r147_131_F, r147_131, r147_134, r147_135, r147_136, r147_139, r147_140, r147_141, r147_144, r147_145, r147_146, r147_149, r147_150, r147_151, r147_154, g165, e105, xAf_none, xAf_some, xu_app, Nat.reduceAdd, Nat.reduceSub, Nat.reduceEqDiff, Nat.reduceMul, reduceIte, and_self, and_true, true_and, and_false, false_and, true_implies, false_implies, implies_true, not_true_eq_false, not_false_eq_true, Int.reduceToNat, Int.reducePow, Int.reduceNeg, Int.reduceLT, Int.reduceLE, Int.reduceAdd, Int.reduceSub, Int.reduceMul, Int.reduceDiv, Int.reduceMod, Int.reduceEq, xA_1, xA_15, xA_255, xA_511, xA_65535, xA_32768]
              refine p_mleave (F := F) (pl := a5) (f := xu (xu f5 21 17 (v / 16)) 21 18 (v % 16)) hF h24 (by omega) g155 g165 (by omega) (by omega) (by omega) fun f6 g156 g166 F6 => ?_
              have FM6 : xFM f a f6 a := FM5.trans F6.M
              have e126 : f6 21 12 = f 21 12 := (F6.2 12 (by decide) (by decide)).trans e125
              simp (config := {contextual := true, maxSteps := 1000000}) (disch := omega) only [r147_0, r147_1, r147_2, r147_5, r147_6, r147_7, r147_9, r147_12, r147_15, r147_16, r147_17, r147_20, r147_21, r147_22, r147_24, r147_27, r147_30, r147_31, r147_32, r147_34, r147_35, r147_36, r147_37, r147_40, r147_43, r147_44, r147_47_T, r147_47_F, r147_47, r147_50, r147_51, r147_54, r147_55_T, r147_55_F, r147_55, r147_58, r147_59, r147_60, r147_63, r147_64, r147_65, r147_68, r147_69, r147_70, r147_73, r147_74, r147_76, r147_77, r147_78, r147_80, r147_83, r147_84, r147_85, r147_86, r147_88, r147_89, r147_92, r147_93, r147_94, r147_96, r147_97, r147_100, r147_101, r147_104_T, r147_104_F, r147_104, r147_107, r147_108, r147_111, r147_112_T, r147_112_F, r147_112, r147_115, r147_116, r147_119, r147_120_T, r147_120_F, r147_120, r147_123, r147_124, r147_127, r147_128, r147_131_T, r147_131_F, r147_131, r147_134, r147_135, r147_136, r147_139, r147_140, r147_141, r147_144, r147_145, r147_146, r147_149, r147_150, r147_151, r147_154, xAf_none, xAf_some, xu_app, Nat.reduceAdd, Nat.reduceSub, Nat.reduceEqDiff, Nat.reduceMul, reduceIte, and_self, and_true, true_and, and_false, false_and, true_implies, false_implies, implies_true, not_true_eq_false, not_false_eq_true, Int.reduceToNat, Int.reducePow, Int.reduceNeg, Int.reduceLT, Int.reduceLE, Int.reduceAdd, Int.reduceSub, Int.reduceMul, Int.reduceDiv, Int.reduceMod, Int.reduceEq, xA_1, xA_15, xA_255, xA_511, xA_65535, xA_32768]
              by_cases c6 : (lvF F te a5).2 = 1
              · rw [if_pos c6] at hno hok
                rw [c6] at g166
                exact hno rfl f6 (.inl ⟨g166, g156⟩) (by dsimp only; omega) (by dsimp only; omega) FM6 e126
              · rw [if_neg c6] at hno hok
                have c6' : (lvF F te a5).2 = 0 := by omega
                rw [c6'] at g166
                have hb7 := pas_bd (en := be) (pl := (lvF F te a5).1) hF (by omega)
                by_cases c7 : (pas F be (lvF F te a5).1).2 = 1
                · rw [if_pos c7] at hno hok
                  exact hno rfl f6 (.inr ⟨g166, _, g156, by omega, by omega, c7, rfl⟩) (by dsimp only; omega) (by dsimp only; omega) FM6 e126
                · rw [if_neg c7] at hno hok
                  have c7' : (pas F be (lvF F te a5).1).2 = 0 := by omega
                  refine hok _ _ _ _ _ _ rfl f6 _ g166 g156 (by omega) (by omega) (by rw [← c7']) ?_ ?_ ?_ ?_ ?_ FM6 e126
                  · rw [F6.2 9 (by decide) (by decide)]; exact e95
                  · rw [F6.2 10 (by decide) (by decide)]; exact e105
                  · rw [F6.2 11 (by decide) (by decide)]; exact e115
                  · rw [F6.2 17 (by decide) (by decide)]; rfl
                  · rw [F6.2 18 (by decide) (by decide)]; rfl
            · rw [if_pos cc] at hno hok
              have hfin : ∀ f', f' = (xu (xu (xu (xu f5 21 17 (v / 16)) 21 18 (v % 16)) 21 15 (a5 - 1)) 21 16 1) → Q (hh f' a g, .returned none) := fun f' hf' => by
                subst hf'
                exact hno rfl _ (.inl ⟨rfl, rfl⟩) (by dsimp only; omega) (by dsimp only; omega) ((FM5.trans (xFM.u (by omega))).trans (xFM.u (by omega))) e125
              have D4 : ∀ (d : Nat) (Q : xm_H × Outcome → Prop), 1 ≤ d → (xTC d 145 [.ref 21, .int (xI te)] (hh (xu (xu (xu (xu f5 21 17 (v / 16)) 21 18 (v % 16)) 21 15 (a5 - 1)) 21 16 1) a g) Q ↔ Q (hh (xu (xu (xu (xu f5 21 17 (v / 16)) 21 18 (v % 16)) 21 15 (a5 - 1)) 21 16 1) a g, .returned none)) := fun d Q hd => d_mleave (f := xu (xu (xu (xu f5 21 17 (v / 16)) 21 18 (v % 16)) 21 15 (a5 - 1)) 21 16 1) rfl hd
              have hcc : v % 16 < 1 ∨ 3 < v % 16 ∨ h < v % 16 := by omega
              clear cc
              by_cases d1 : v % 16 < 1
              · simp (config := {contextual := true, maxSteps := 1000000}) (disch := omega) only [r147_0, r147_1, r147_2, r147_5, r147_6, r147_7, r147_9, r147_12, r147_15, r147_16, r147_17, r147_20, r147_21, r147_22, r147_24, r147_27, r147_30, r147_31, r147_32, r147_34, r147_35, r147_36, r147_37, r147_40, r147_43, r147_44, r147_47_T, r147_47_F, r147_47, r147_50, r147_51, r147_54, r147_55_T, r147_55_F, r147_55, r147_58, r147_59, r147_60, r147_63, r147_64, r147_65, r147_68, r147_69, r147_70, r147_73, r147_74, r147_76, r147_77, r147_78, r147_80, r147_83, r147_84, r147_85, r147_86, r147_88, r147_89, r147_92, r147_93, r147_94, r147_96, r147_97, r147_100, r147_101, r147_104_T, r147_104_F, r147_104, r147_107, r147_108, r147_111, r147_112_T, r147_112_F, r147_112, r147_115, r147_116, r147_119, r147_120_T, r147_120_F, r147_120, r147_123, r147_124, r147_127, r147_128, r147_131_T, r147_131_F, r147_131, r147_134, r147_135, r147_136, r147_139, r147_140, r147_141, r147_144, r147_145, r147_146, r147_149, r147_150, r147_151, r147_154, g165, g155, e105, D4, xAf_none, xAf_some, xu_app, Nat.reduceAdd, Nat.reduceSub, Nat.reduceEqDiff, Nat.reduceMul, reduceIte, and_self, and_true, true_and, and_false, false_and, true_implies, false_implies, implies_true, not_true_eq_false, not_false_eq_true, Int.reduceToNat, Int.reducePow, Int.reduceNeg, Int.reduceLT, Int.reduceLE, Int.reduceAdd, Int.reduceSub, Int.reduceMul, Int.reduceDiv, Int.reduceMod, Int.reduceEq, xA_1, xA_15, xA_255, xA_511, xA_65535, xA_32768]
                exact hfin _ rfl
              · by_cases d2 : 3 < v % 16
                · simp (config := {contextual := true, maxSteps := 1000000}) (disch := omega) only [r147_0, r147_1, r147_2, r147_5, r147_6, r147_7, r147_9, r147_12, r147_15, r147_16, r147_17, r147_20, r147_21, r147_22, r147_24, r147_27, r147_30, r147_31, r147_32, r147_34, r147_35, r147_36, r147_37, r147_40, r147_43, r147_44, r147_47_T, r147_47_F, r147_47, r147_50, r147_51, r147_54, r147_55_T, r147_55_F, r147_55, r147_58, r147_59, r147_60, r147_63, r147_64, r147_65, r147_68, r147_69, r147_70, r147_73, r147_74, r147_76, r147_77, r147_78, r147_80, r147_83, r147_84, r147_85, r147_86, r147_88, r147_89, r147_92, r147_93, r147_94, r147_96, r147_97, r147_100, r147_101, r147_104_T, r147_104_F, r147_104, r147_107, r147_108, r147_111, r147_112_T, r147_112_F, r147_112, r147_115, r147_116, r147_119, r147_120_T, r147_120_F, r147_120, r147_123, r147_124, r147_127, r147_128, r147_131_T, r147_131_F, r147_131, r147_134, r147_135, r147_136, r147_139, r147_140, r147_141, r147_144, r147_145, r147_146, r147_149, r147_150, r147_151, r147_154, g165, g155, e105, D4, xAf_none, xAf_some, xu_app, Nat.reduceAdd, Nat.reduceSub, Nat.reduceEqDiff, Nat.reduceMul, reduceIte, and_self, and_true, true_and, and_false, false_and, true_implies, false_implies, implies_true, not_true_eq_false, not_false_eq_true, Int.reduceToNat, Int.reducePow, Int.reduceNeg, Int.reduceLT, Int.reduceLE, Int.reduceAdd, Int.reduceSub, Int.reduceMul, Int.reduceDiv, Int.reduceMod, Int.reduceEq, xA_1, xA_15, xA_255, xA_511, xA_65535, xA_32768]
                  exact hfin _ rfl
                · have d3 : h < v % 16 := by omega
                  simp (config := {contextual := true, maxSteps := 1000000}) (disch := omega) only [r147_0, r147_1, r147_2, r147_5, r147_6, r147_7, r147_9, r147_12, r147_15, r147_16, r147_17, r147_20, r147_21, r147_22, r147_24, r147_27, r147_30, r147_31, r147_32, r147_34, r147_35, r147_36, r147_37, r147_40, r147_43, r147_44, r147_47_T, r147_47_F, r147_47, r147_50, r147_51, r147_54, r147_55_T, r147_55_F, r147_55, r147_58, r147_59, r147_60, r147_63, r147_64, r147_65, r147_68, r147_69, r147_70, r147_73, r147_74, r147_76, r147_77, r147_78, r147_80, r147_83, r147_84, r147_85, r147_86, r147_88, r147_89, r147_92, r147_93, r147_94, r147_96, r147_97, r147_100, r147_101, r147_104_T, r147_104_F, r147_104, r147_107, r147_108, r147_111, r147_112_T, r147_112_F, r147_112, r147_115, r147_116, r147_119, r147_120_T, r147_120_F, r147_120, r147_123, r147_124, r147_127, r147_128, r147_131_T, r147_131_F, r147_131, r147_134, r147_135, r147_136, r147_139, r147_140, r147_141, r147_144, r147_145, r147_146, r147_149, r147_150, r147_151, r147_154, g165, g155, e105, D4, xAf_none, xAf_some, xu_app, Nat.reduceAdd, Nat.reduceSub, Nat.reduceEqDiff, Nat.reduceMul, reduceIte, and_self, and_true, true_and, and_false, false_and, true_implies, false_implies, implies_true, not_true_eq_false, not_false_eq_true, Int.reduceToNat, Int.reducePow, Int.reduceNeg, Int.reduceLT, Int.reduceLE, Int.reduceAdd, Int.reduceSub, Int.reduceMul, Int.reduceDiv, Int.reduceMod, Int.reduceEq, xA_1, xA_15, xA_255, xA_511, xA_65535, xA_32768]
                  exact hfin _ rfl
        · rw [if_pos cp] at hno hok
          have cp2 : pn = 2 := by omega
          have D3 : ∀ (d : Nat) (id lo hi : Int) (Q : xm_H × Outcome → Prop), 2 ≤ d → (xTC d 146 [.ref 21, .int (xI id), .int (xI te), .int (xI lo), .int (xI hi)] (hh (xu (xu (xu f4 21 11 2) 21 15 (a4 - 1)) 21 16 1) a g) Q ↔ Q (hh (xu (xu (xu f4 21 11 2) 21 15 (a4 - 1)) 21 16 1) a g, .returned (some (.int (xI 0))))) := fun d id lo hi Q hd => d_mnumber (f := xu (xu (xu f4 21 11 2) 21 15 (a4 - 1)) 21 16 1) rfl hd
          have D4 : ∀ (d : Nat) (Q : xm_H × Outcome → Prop), 1 ≤ d → (xTC d 145 [.ref 21, .int (xI te)] (hh (xu (xu (xu (xu (xu f4 21 11 2) 21 15 (a4 - 1)) 21 16 1) 21 17 0) 21 18 0) a g) Q ↔ Q (hh (xu (xu (xu (xu (xu f4 21 11 2) 21 15 (a4 - 1)) 21 16 1) 21 17 0) 21 18 0) a g, .returned none)) := fun d Q hd => d_mleave (f := xu (xu (xu (xu (xu f4 21 11 2) 21 15 (a4 - 1)) 21 16 1) 21 17 0) 21 18 0) rfl hd
          rw [cp2] at FM4 ⊢
          simp (config := {contextual := true, maxSteps := 1000000}) (disch := omega) only [r147_0, r147_1, r147_2, r147_5, r147_6, r147_7, r147_9, r147_12, r147_15, r147_16, r147_17, r147_20, r147_21, r147_22, r147_24, r147_27, r147_30, r147_31, r147_32, r147_34, r147_35, r147_36, r147_37, r147_40, r147_43, r147_44, r147_47_T, r147_47_F, r147_47, r147_50, r147_51, r147_54, r147_55_T, r147_55_F, r147_55, r147_58, r147_59, r147_60, r147_63, r147_64, r147_65, r147_68, r147_69, r147_70, r147_73, r147_74, r147_76, r147_77, r147_78, r147_80, r147_83, r147_84, r147_85, r147_86, r147_88, r147_89, r147_92, r147_93, r147_94, r147_96, r147_97, r147_100, r147_101, r147_104_T, r147_104_F, r147_104, r147_107, r147_108, r147_111, r147_112_T, r147_112_F, r147_112, r147_115, r147_116, r147_119, r147_120_T, r147_120_F, r147_120, r147_123, r147_124, r147_127, r147_128, r147_131_T, r147_131_F, r147_131, r147_134, r147_135, r147_136, r147_139, r147_140, r147_141, r147_144, r147_145, r147_146, r147_149, r147_150, r147_151, r147_154, g164, g154, D3, D4, xAf_none, xAf_some, xu_app, Nat.reduceAdd, Nat.reduceSub, Nat.reduceEqDiff, Nat.reduceMul, reduceIte, and_self, and_true, true_and, and_false, false_and, true_implies, false_implies, implies_true, not_true_eq_false, not_false_eq_true, Int.reduceToNat, Int.reducePow, Int.reduceNeg, Int.reduceLT, Int.reduceLE, Int.reduceAdd, Int.reduceSub, Int.reduceMul, Int.reduceDiv, Int.reduceMod, Int.reduceEq, xA_1, xA_15, xA_255, xA_511, xA_65535, xA_32768]
          exact hno rfl _ (.inl ⟨rfl, rfl⟩) (by dsimp only; omega) (by dsimp only; omega) ((((FM4.trans (xFM.u (by omega))).trans (xFM.u (by omega))).trans (xFM.u (by omega))).trans (xFM.u (by omega))) e124
end S84
