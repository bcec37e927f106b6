/-! THE HEAD AND THE TRACK -/
def hdF (F : Int → Int) (ln : Int) : Int × Int × Int :=
  if (enF F 26 ln 0).1 = 1 then (1, (enF F 26 ln 0).2.1, 0)
  else if (nuF F 66 1 1 1 (enF F 26 ln 0).2.2.1 (enF F 26 ln 0).2.1).1 = 1 then (1, (nuF F 66 1 1 1 (enF F 26 ln 0).2.2.1 (enF F 26 ln 0).2.1).2.1, 0)
  else if (lvF F (enF F 26 ln 0).2.2.1 (nuF F 66 1 1 1 (enF F 26 ln 0).2.2.1 (enF F 26 ln 0).2.1).2.1).2 = 1 then (1, (lvF F (enF F 26 ln 0).2.2.1 (nuF F 66 1 1 1 (enF F 26 ln 0).2.2.1 (enF F 26 ln 0).2.1).2.1).1, 0)
  else if (enF F 24 ln (lvF F (enF F 26 ln 0).2.2.1 (nuF F 66 1 1 1 (enF F 26 ln 0).2.2.1 (enF F 26 ln 0).2.1).2.1).1).1 = 1 then (1, (enF F 24 ln (lvF F (enF F 26 ln 0).2.2.1 (nuF F 66 1 1 1 (enF F 26 ln 0).2.2.1 (enF F 26 ln 0).2.1).2.1).1).2.1, 0)
  else (0, (enF F 24 ln (lvF F (enF F 26 ln 0).2.2.1 (nuF F 66 1 1 1 (enF F 26 ln 0).2.2.1 (enF F 26 ln 0).2.1).2.1).1).2.1, (enF F 24 ln (lvF F (enF F 26 ln 0).2.2.1 (nuF F 66 1 1 1 (enF F 26 ln 0).2.2.1 (enF F 26 ln 0).2.1).2.1).1).2.2.1)
/-- behind the coding -/
def t6F (F : Int → Int) (be te pl w h pn v : Int) : Int × Int × Int × Int × Int × Int × Int :=
  if (lvF F te pl).2 = 1 then (1, (lvF F te pl).1, 0, 0, 0, 0, 0)
  else if (pas F be (lvF F te pl).1).2 = 1 then (1, (pas F be (lvF F te pl).1).1, 0, 0, 0, 0, 0)
  else (0, (pas F be (lvF F te pl).1).1, w, h, pn, v / 16, v % 16)
def t5F (F : Int → Int) (be te pl w h pn : Int) : Int × Int × Int × Int × Int × Int × Int :=
  if (nuF F 84 1 0 255 te pl).1 = 1 then (1, (nuF F 84 1 0 255 te pl).2.1, 0, 0, 0, 0, 0)
  else if ¬ (((nuF F 84 1 0 255 te pl).2.2 / 16 = 0 ∨ (nuF F 84 1 0 255 te pl).2.2 / 16 = 1) ∧ 1 ≤ (nuF F 84 1 0 255 te pl).2.2 % 16 ∧ (nuF F 84 1 0 255 te pl).2.2 % 16 ≤ 3 ∧ (nuF F 84 1 0 255 te pl).2.2 % 16 ≤ h) then (1, (nuF F 84 1 0 255 te pl).2.1 - 1, 0, 0, 0, 0, 0)
  else t6F F be te (nuF F 84 1 0 255 te pl).2.1 w h pn (nuF F 84 1 0 255 te pl).2.2
def t4F (F : Int → Int) (be te pl w h : Int) : Int × Int × Int × Int × Int × Int × Int :=
  if (nuF F 83 1 1 3 te pl).1 = 1 then (1, (nuF F 83 1 1 3 te pl).2.1, 0, 0, 0, 0, 0)
  else if ¬ ((nuF F 83 1 1 3 te pl).2.2 = 1 ∨ (nuF F 83 1 1 3 te pl).2.2 = 3) then (1, (nuF F 83 1 1 3 te pl).2.1 - 1, 0, 0, 0, 0, 0)
  else t5F F be te (nuF F 83 1 1 3 te pl).2.1 w h (nuF F 83 1 1 3 te pl).2.2
def t3F (F : Int → Int) (be te pl w : Int) : Int × Int × Int × Int × Int × Int × Int :=
  if (nuF F 186 1 1 6 te pl).1 = 1 then (1, (nuF F 186 1 1 6 te pl).2.1, 0, 0, 0, 0, 0)
  else t4F F be te (nuF F 186 1 1 6 te pl).2.1 w (nuF F 186 1 1 6 te pl).2.2
def t2F (F : Int → Int) (be te pl : Int) : Int × Int × Int × Int × Int × Int × Int :=
  if (nuF F 176 1 1 6 te pl).1 = 1 then (1, (nuF F 176 1 1 6 te pl).2.1, 0, 0, 0, 0, 0)
  else t3F F be te (nuF F 176 1 1 6 te pl).2.1 (nuF F 176 1 1 6 te pl).2.2
def tkF (F : Int → Int) (be pl : Int) : Int × Int × Int × Int × Int × Int × Int :=
  if (enF F 174 be pl).1 = 1 then (1, (enF F 174 be pl).2.1, 0, 0, 0, 0, 0)
  else t2F F be (enF F 174 be pl).2.2.1 (enF F 174 be pl).2.1
/-- the reader alone has changed -/
def xFh (f f' : Nat → Nat → Int) : Prop := (∀ i, i ≠ 20 → f' i = f i) ∧ (∀ k, k < 6 → f' 20 k = f 20 k)
theorem xFq.h {f f' : Nat → Nat → Int} (h : xFq f f') : xFh f f' := ⟨h.1, fun k hk => h.2 k (by omega) (by omega) (by omega)⟩
theorem xFh.trans {f f' f'' : Nat → Nat → Int} (h : xFh f f') (h' : xFh f' f'') : xFh f f'' := ⟨fun i hi => (h'.1 i hi).trans (h.1 i hi), fun k hk => (h'.2 k hk).trans (h.2 k hk)⟩
theorem xFh.u {f : Nat → Nat → Int} {k : Nat} {v : Int} (hk : 6 ≤ k) : xFh f (xu f 20 k v) := ⟨fun i hi => xu_ne _ hi, fun k' h' => by rw [xu_app, if_neg (by omega)]⟩
/-- the reader has failed -/
def dd (f : Nat → Nat → Int) (o : Int) : Prop := f 20 7 = o ∧ 0 ≤ o ∧ o ≤ 1200 ∧ 0 ≤ f 20 6 ∧ f 20 6 ≤ 1200
section S78
variable {d : Nat} {Q : xm_H × Outcome → Prop} {g : xG} {f : Nat → Nat → Int} {a : Nat → Int → Int} {F : Int → Int} {ln be pl o : Int}
set_option maxRecDepth 100000 in
theorem p_head (hF : ∀ j, 0 ≤ F j ∧ F j ≤ 255) (h9 : a 9 = F) (h80 : f 8 0 = ln) (hl0 : 0 ≤ ln) (hln : ln ≤ 1200) (hd : 7 ≤ d)
    (hno : (hdF F ln).1 = 1 → ∀ f', dd f' (hdF F ln).2.1 → 0 ≤ f' 20 8 → f' 20 8 ≤ 1200 → xFh f f' → Q (hh f' a g, .returned none))
    (hok : (hdF F ln).1 = 0 → ∀ f', f' 20 7 = -1 → f' 20 6 = (hdF F ln).2.1 → f' 20 8 = (hdF F ln).2.2 → 0 ≤ (hdF F ln).2.1 → (hdF F ln).2.1 ≤ (hdF F ln).2.2 → (hdF F ln).2.2 ≤ ln → xFh f f' → Q (hh f' a g, .returned none)) : xTC d 89 [.ref 20] (hh f a g) Q := by
  have hby : ∀ j, 0 ≤ a 9 j ∧ a 9 j ≤ 255 := fun j => by rw [h9]; exact hF j
  have F0 : xFh f (xu (xu f 20 6 0) 20 7 (-1)) := (xFh.u (by omega)).trans (xFh.u (by omega))
  have hb1 := enF_bd (id := 26) (pl := 0) hF hl0
  unfold hdF at hno hok
  rw [e89]
  simp (config := {contextual := true, maxSteps := 1000000}) (disch := omega) only [r89_0, r89_1, r89_2, r89_5, r89_6, r89_7, r89_10, r89_11, r89_13, r89_14, r89_17, r89_20, r89_23, r89_24, r89_25, r89_27, r89_28, r89_29, r89_30, r89_31, r89_34, r89_35, r89_36, r89_37, r89_40, r89_41, r89_42, r89_44, r89_45, r89_48, r89_51, r89_54, r89_57, h80, xAf_none, xAf_some, xu_app, Nat.reduceAdd, Nat.reduceSub, Nat.reduceEqDiff, Nat.reduceMul, reduceIte, and_self, and_true, true_and, and_false, false_and, true_implies, false_implies, implies_true, not_true_eq_false, not_false_eq_true, Int.reduceToNat, Int.reducePow, Int.reduceNeg, Int.reduceLT, Int.reduceLE, Int.reduceAdd, Int.reduceSub, Int.reduceMul, Int.reduceDiv, Int.reduceMod, Int.reduceEq, xA_1, xA_15, xA_255, xA_511, xA_65535, xA_32768]
  refine p_enter (F := F) (pl := 0) (f := xu (xu f 20 6 0) 20 7 (-1)) hF h9 (by show ln ≤ f 8 0; omega) (by show f 8 0 ≤ 1200; omega) rfl rfl (by omega) hl0 (by omega) (by omega) (by omega) (fun hf f1 r g7 g6 F1 hr => ?_) (fun hf f1 g7 g6 g9 F1 => ?_)
  · rw [if_pos hf] at hno hok
    obtain ⟨o, ho⟩ : ∃ o, (enF F 26 ln 0).2.1 = o := ⟨_, rfl⟩
    rw [ho] at hno hok g7 g6 hr hb1
    have e80 : f1 8 0 = ln := by rw [F1.1 8 (by decide)]; exact h80
    have q1 : ¬ f1 20 7 = -1 := by omega
    have q2 : -1 ≤ f1 20 7 := by omega
    have q3 : f1 20 7 ≤ 100000 := by omega
    have q4 : 0 ≤ f1 20 6 := by omega
    have q5 : f1 20 6 ≤ 1200 := by omega
    have q6 : 0 ≤ f1 8 0 := by omega
    have q7 : f1 8 0 ≤ 1200 := by omega
    subst hr
    simp (config := {contextual := true, maxSteps := 1000000}) (disch := omega) only [r89_0, r89_1, r89_2, r89_5, r89_6, r89_7, r89_10, r89_11, r89_13, r89_14, r89_17, r89_20, r89_23, r89_24, r89_25, r89_27, r89_28, r89_29, r89_30, r89_31, r89_34, r89_35, r89_36, r89_37, r89_40, r89_41, r89_42, r89_44, r89_45, r89_48, r89_51, r89_54, r89_57, d_number (hF := hby), d_leave, d_enter (hF := hby), g6, xAf_none, xAf_some, xu_app, Nat.reduceAdd, Nat.reduceSub, Nat.reduceEqDiff, Nat.reduceMul, reduceIte, and_self, and_true, true_and, and_false, false_and, true_implies, false_implies, implies_true, not_true_eq_false, not_false_eq_true, Int.reduceToNat, Int.reducePow, Int.reduceNeg, Int.reduceLT, Int.reduceLE, Int.reduceAdd, Int.reduceSub, Int.reduceMul, Int.reduceDiv, Int.reduceMod, Int.reduceEq, xA_1, xA_15, xA_255, xA_511, xA_65535, xA_32768]
    exact hno rfl _ ⟨g7, by first | omega | (dsimp only; omega), by first | omega | (dsimp only; omega), q4, q5⟩ (by show 0 ≤ r; omega) (by show r ≤ 1200; omega) ((F0.trans F1.h).trans (xFh.u (by omega)))
  · rw [if_neg (by omega)] at hno hok
    have hb1' := hb1.2.2.resolve_left (by omega)
    obtain ⟨a1, ha1⟩ : ∃ a1, (enF F 26 ln 0).2.1 = a1 := ⟨_, rfl⟩
    obtain ⟨e1, he1⟩ : ∃ e1, (enF F 26 ln 0).2.2.1 = e1 := ⟨_, rfl⟩
    rw [ha1, he1] at hno hok
    rw [ha1] at g6 hb1 hb1'
    rw [he1] at hb1' ⊢
    have e80 : f1 8 0 = ln := by rw [F1.1 8 (by decide)]; exact h80
    have hb2 := nuF_bd (id := 66) (n := 1) (lo := 1) (hi := 1) (en := e1) (pl := a1) hF (by omega)
    simp (config := {contextual := true, maxSteps := 1000000}) (disch := omega) only [r89_0, r89_1, r89_2, r89_5, r89_6, r89_7, r89_10, r89_11, r89_13, r89_14, r89_17, r89_20, r89_23, r89_24, r89_25, r89_27, r89_28, r89_29, r89_30, r89_31, r89_34, r89_35, r89_36, r89_37, r89_40, r89_41, r89_42, r89_44, r89_45, r89_48, r89_51, r89_54, r89_57, xAf_none, xAf_some, xu_app, Nat.reduceAdd, Nat.reduceSub, Nat.reduceEqDiff, Nat.reduceMul, reduceIte, and_self, and_true, true_and, and_false, false_and, true_implies, false_implies, implies_true, not_true_eq_false, not_false_eq_true, Int.reduceToNat, Int.reducePow, Int.reduceNeg, Int.reduceLT, Int.reduceLE, Int.reduceAdd, Int.reduceSub, Int.reduceMul, Int.reduceDiv, Int.reduceMod, Int.reduceEq, xA_1, xA_15, xA_255, xA_511, xA_65535, xA_32768]
    refine p_number (F := F) (pl := a1) (n := 1) hF h9 (by omega) (by omega) g6 g7 (by omega) (by omega) (by omega) (by omega) (.inl rfl) (by omega) (by omega) (by omega) (by omega) (by omega) (fun hf2 f2 r g7' g60 g61 F2 r0 => ?_) (fun hf2 f2 g7' g6' F2 => ?_)
    · rw [if_pos hf2] at hno hok
      have e82 : f2 8 0 = ln := by rw [F2.1 8 (by decide)]; exact e80
      have q1 : ¬ f2 20 7 = -1 := by omega
      have q2 : -1 ≤ f2 20 7 := by omega
      have q3 : f2 20 7 ≤ 100000 := by omega
      have q6 : 0 ≤ f2 8 0 := by omega
      have q7 : f2 8 0 ≤ 1200 := by omega
      simp (config := {contextual := true, maxSteps := 1000000}) (disch := omega) only [r89_0, r89_1, r89_2, r89_5, r89_6, r89_7, r89_10, r89_11, r89_13, r89_14, r89_17, r89_20, r89_23, r89_24, r89_25, r89_27, r89_28, r89_29, r89_30, r89_31, r89_34, r89_35, r89_36, r89_37, r89_40, r89_41, r89_42, r89_44, r89_45, r89_48, r89_51, r89_54, r89_57, d_leave, d_enter (hF := hby), xAf_none, xAf_some, xu_app, Nat.reduceAdd, Nat.reduceSub, Nat.reduceEqDiff, Nat.reduceMul, reduceIte, and_self, and_true, true_and, and_false, false_and, true_implies, false_implies, implies_true, not_true_eq_false, not_false_eq_true, Int.reduceToNat, Int.reducePow, Int.reduceNeg, Int.reduceLT, Int.reduceLE, Int.reduceAdd, Int.reduceSub, Int.reduceMul, Int.reduceDiv, Int.reduceMod, Int.reduceEq, xA_1, xA_15, xA_255, xA_511, xA_65535, xA_32768]
      exact hno rfl _ ⟨g7', by first | omega | (dsimp only; omega), by first | omega | (dsimp only; omega), g60, g61⟩ g60 g61 (((F0.trans F1.h).trans F2.h).trans (xFh.u (by omega)))
    · rw [if_neg (by omega)] at hno hok
      obtain ⟨a2, ha2⟩ : ∃ a2, (nuF F 66 1 1 1 e1 a1).2.1 = a2 := ⟨_, rfl⟩
      rw [ha2] at hno hok g6' hb2
      have e82 : f2 8 0 = ln := by rw [F2.1 8 (by decide)]; exact e80
      have hb3 := lvF_bd (en := e1) (pl := a2) hF (by omega)
      simp (config := {contextual := true, maxSteps := 1000000}) (disch := omega) only [r89_0, r89_1, r89_2, r89_5, r89_6, r89_7, r89_10, r89_11, r89_13, r89_14, r89_17, r89_20, r89_23, r89_24, r89_25, r89_27, r89_28, r89_29, r89_30, r89_31, r89_34, r89_35, r89_36, r89_37, r89_40, r89_41, r89_42, r89_44, r89_45, r89_48, r89_51, r89_54, r89_57, xAf_none, xAf_some, xu_app, Nat.reduceAdd, Nat.reduceSub, Nat.reduceEqDiff, Nat.reduceMul, reduceIte, and_self, and_true, true_and, and_false, false_and, true_implies, false_implies, implies_true, not_true_eq_false, not_false_eq_true, Int.reduceToNat, Int.reducePow, Int.reduceNeg, Int.reduceLT, Int.reduceLE, Int.reduceAdd, Int.reduceSub, Int.reduceMul, Int.reduceDiv, Int.reduceMod, Int.reduceEq, xA_1, xA_15, xA_255, xA_511, xA_65535, xA_32768]
      refine p_leave (F := F) (pl := a2) hF h9 (by omega) (by omega) g6' g7' (by omega) (by omega) (by omega) fun f3 g63 g73 F3 => ?_
      have e83 : f3 8 0 = ln := by rw [F3.1 8 (by decide)]; exact e82
      obtain ⟨a3, ha3⟩ : ∃ a3, (lvF F e1 a2).1 = a3 := ⟨_, rfl⟩
      rw [ha3] at hno hok g63 g73 hb3
      by_cases c3 : (lvF F e1 a2).2 = 1
      · rw [if_pos c3] at hno hok g73
        have q1 : ¬ f3 20 7 = -1 := by omega
        have q2 : -1 ≤ f3 20 7 := by omega
        have q3 : f3 20 7 ≤ 100000 := by omega
        have q4 : 0 ≤ f3 20 6 := by omega
        have q5 : f3 20 6 ≤ 1200 := by omega
        have q6 : 0 ≤ f3 8 0 := by omega
        have q7 : f3 8 0 ≤ 1200 := by omega
        simp (config := {contextual := true, maxSteps := 1000000}) (disch := omega) only [r89_0, r89_1, r89_2, r89_5, r89_6, r89_7, r89_10, r89_11, r89_13, r89_14, r89_17, r89_20, r89_23, r89_24, r89_25, r89_27, r89_28, r89_29, r89_30, r89_31, r89_34, r89_35, r89_36, r89_37, r89_40, r89_41, r89_42, r89_44, r89_45, r89_48, r89_51, r89_54, r89_57, d_enter (hF := hby), xAf_none, xAf_some, xu_app, Nat.reduceAdd, Nat.reduceSub, Nat.reduceEqDiff, Nat.reduceMul, reduceIte, and_self, and_true, true_and, and_false, false_and, true_implies, false_implies, implies_true, not_true_eq_false, not_false_eq_true, Int.reduceToNat, Int.reducePow, Int.reduceNeg, Int.reduceLT, Int.reduceLE, Int.reduceAdd, Int.reduceSub, Int.reduceMul, Int.reduceDiv, Int.reduceMod, Int.reduceEq, xA_1, xA_15, xA_255, xA_511, xA_65535, xA_32768]
        exact hno rfl _ ⟨g73, by first | omega | (dsimp only; omega), by first | omega | (dsimp only; omega), q4, q5⟩ q4 q5 ((((F0.trans F1.h).trans F2.h).trans F3.h).trans (xFh.u (by omega)))
      · rw [if_neg c3] at hno hok g73
        have hb4 := enF_bd (id := 24) (en := ln) (pl := a3) hF (by omega)
        simp (config := {contextual := true, maxSteps := 1000000}) (disch := omega) only [r89_0, r89_1, r89_2, r89_5, r89_6, r89_7, r89_10, r89_11, r89_13, r89_14, r89_17, r89_20, r89_23, r89_24, r89_25, r89_27, r89_28, r89_29, r89_30, r89_31, r89_34, r89_35, r89_36, r89_37, r89_40, r89_41, r89_42, r89_44, r89_45, r89_48, r89_51, r89_54, r89_57, e83, xAf_none, xAf_some, xu_app, Nat.reduceAdd, Nat.reduceSub, Nat.reduceEqDiff, Nat.reduceMul, reduceIte, and_self, and_true, true_and, and_false, false_and, true_implies, false_implies, implies_true, not_true_eq_false, not_false_eq_true, Int.reduceToNat, Int.reducePow, Int.reduceNeg, Int.reduceLT, Int.reduceLE, Int.reduceAdd, Int.reduceSub, Int.reduceMul, Int.reduceDiv, Int.reduceMod, Int.reduceEq, xA_1, xA_15, xA_255, xA_511, xA_65535, xA_32768]
        refine p_enter (F := F) (pl := a3) hF h9 (by omega) (by omega) g63 g73 (by omega) (by omega) (by omega) (by omega) (by omega) (fun hf4 f4 r g74 g64 F4 hr => ?_) (fun hf4 f4 g74 g64 g94 F4 => ?_)
        · rw [if_pos hf4] at hno hok
          simp (config := {contextual := true, maxSteps := 1000000}) (disch := omega) only [r89_0, r89_1, r89_2, r89_5, r89_6, r89_7, r89_10, r89_11, r89_13, r89_14, r89_17, r89_20, r89_23, r89_24, r89_25, r89_27, r89_28, r89_29, r89_30, r89_31, r89_34, r89_35, r89_36, r89_37, r89_40, r89_41, r89_42, r89_44, r89_45, r89_48, r89_51, r89_54, r89_57, xAf_none, xAf_some, xu_app, Nat.reduceAdd, Nat.reduceSub, Nat.reduceEqDiff, Nat.reduceMul, reduceIte, and_self, and_true, true_and, and_false, false_and, true_implies, false_implies, implies_true, not_true_eq_false, not_false_eq_true, Int.reduceToNat, Int.reducePow, Int.reduceNeg, Int.reduceLT, Int.reduceLE, Int.reduceAdd, Int.reduceSub, Int.reduceMul, Int.reduceDiv, Int.reduceMod, Int.reduceEq, xA_1, xA_15, xA_255, xA_511, xA_65535, xA_32768]
          exact hno rfl _ ⟨g74, by first | omega | (dsimp only; omega), by first | omega | (dsimp only; omega), by show 0 ≤ f4 20 6; omega, by show f4 20 6 ≤ 1200; omega⟩ (by show 0 ≤ r; omega) (by show r ≤ 1200; omega) (((((F0.trans F1.h).trans F2.h).trans F3.h).trans F4.h).trans (xFh.u (by omega)))
        · rw [if_neg (by omega)] at hno hok
          have hb4' := hb4.2.2.resolve_left (by omega)
          simp (config := {contextual := true, maxSteps := 1000000}) (disch := omega) only [r89_0, r89_1, r89_2, r89_5, r89_6, r89_7, r89_10, r89_11, r89_13, r89_14, r89_17, r89_20, r89_23, r89_24, r89_25, r89_27, r89_28, r89_29, r89_30, r89_31, r89_34, r89_35, r89_36, r89_37, r89_40, r89_41, r89_42, r89_44, r89_45, r89_48, r89_51, r89_54, r89_57, xAf_none, xAf_some, xu_app, Nat.reduceAdd, Nat.reduceSub, Nat.reduceEqDiff, Nat.reduceMul, reduceIte, and_self, and_true, true_and, and_false, false_and, true_implies, false_implies, implies_true, not_true_eq_false, not_false_eq_true, Int.reduceToNat, Int.reducePow, Int.reduceNeg, Int.reduceLT, Int.reduceLE, Int.reduceAdd, Int.reduceSub, Int.reduceMul, Int.reduceDiv, Int.reduceMod, Int.reduceEq, xA_1, xA_15, xA_255, xA_511, xA_65535, xA_32768]
          exact hok rfl _ g74 g64 rfl (by dsimp only; omega) (by dsimp only; omega) (by dsimp only; omega) (((((F0.trans F1.h).trans F2.h).trans F3.h).trans F4.h).trans (xFh.u (by omega)))
end S78
