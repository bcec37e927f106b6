/-! THE DRAFT AS A LIST OF BYTES -/
/-- the draft (10, 11) holds these bytes; beyond 1200 it is full -/
def xB (f : Nat → Nat → Int) (a : Nat → Int → Int) (B : List Int) : Prop :=
  (f 10 0 = min (B.length : Int) 1200) ∧ (B.length ≤ 1200 → f 10 1 = 0 ∧ ∀ j : Nat, j < B.length → a 11 (j : Int) = B.getD j 0) ∧ (1200 < B.length → f 10 1 = 1) ∧ (∀ j, 0 ≤ a 11 j ∧ a 11 j ≤ 255)
/-- nothing but the draft has changed -/
def xF10 (f : Nat → Nat → Int) (a : Nat → Int → Int) (f' : Nat → Nat → Int) (a' : Nat → Int → Int) : Prop := (∀ i, i ≠ 10 → f' i = f i) ∧ (∀ k, 2 ≤ k → f' 10 k = f 10 k) ∧ (∀ i, i ≠ 11 → a' i = a i)
theorem xF10.refl (f : Nat → Nat → Int) (a : Nat → Int → Int) : xF10 f a f a := ⟨fun _ _ => rfl, fun _ _ => rfl, fun _ _ => rfl⟩
theorem xF10.trans {f f' f'' : Nat → Nat → Int} {a a' a'' : Nat → Int → Int} (h : xF10 f a f' a') (h' : xF10 f' a' f'' a'') : xF10 f a f'' a'' :=
  ⟨fun i hi => (h'.1 i hi).trans (h.1 i hi), fun k hk => (h'.2.1 k hk).trans (h.2.1 k hk), fun i hi => (h'.2.2 i hi).trans (h.2.2 i hi)⟩
theorem xu_ne (f : Nat → Nat → Int) {i k : Nat} {v : Int} {i' : Nat} (h : i' ≠ i) : xu f i k v i' = f i' := by
  funext k'; unfold xu; rw [if_neg (fun z => h z.1)]
theorem xw_ne (a : Nat → Int → Int) {i : Nat} {j v : Int} {i' : Nat} (h : i' ≠ i) : xw a i j v i' = a i' := by
  funext k'; unfold xw; rw [if_neg (fun z => h z.1)]
theorem xcp_ne (a : Nat → Int → Int) {o1 o2 : Nat} {s t n : Int} {i' : Nat} (h : i' ≠ o2) : xcp a o1 s o2 t n i' = a i' := by
  funext k'; unfold xcp; rw [if_neg (fun z => h z.1)]
theorem getD_snoc {B : List Int} {v : Int} {j : Nat} (h : j < B.length) : (B ++ [v]).getD j 0 = B.getD j 0 := by
  simp [List.getD_eq_getElem?_getD, List.getElem?_append_left h]
theorem getD_last {B : List Int} {v : Int} : (B ++ [v]).getD B.length 0 = v := by
  simp [List.getD_eq_getElem?_getD]
section S40
variable {d : Nat} {Q : xm_H × Outcome → Prop} {f : Nat → Nat → Int} {a : Nat → Int → Int} {g : xG} {k v x y z w p q t : Int} {B : List Int}
theorem xB.len (h : xB f a B) : 0 ≤ f 10 0 ∧ f 10 0 ≤ 1200 := by have := h.1; omega
/-- only what lies in 10 and 11 counts -/
theorem xB.of {f' : Nat → Nat → Int} {a' : Nat → Int → Int} (h : xB f a B) (h0 : f' 10 0 = f 10 0) (h1 : f' 10 1 = f 10 1) (h2 : a' 11 = a 11) : xB f' a' B := by
  unfold xB; rw [h0, h1, h2]; exact h
theorem p_push (h : xB f a B) (v0 : 0 ≤ v) (v1 : v ≤ 255) (hk : ∀ f' a', xB f' a' (B ++ [v]) → xF10 f a f' a' → Q (hh f' a' g, .returned none)) : xTC d 54 [.ref 10, .int (xI v)] (hh f a g) Q := by
  have hl := h.len
  rw [s_push10 hl.1 hl.2]
  obtain ⟨h0, h1, h2, h3⟩ := h
  refine ⟨fun hc => hk _ _ ⟨?_, fun hn => ⟨?_, fun j hj => ?_⟩, fun hn => ?_, fun j => ?_⟩ ⟨fun i hi => xu_ne _ hi, fun k hk => ?_, fun i hi => xw_ne _ hi⟩, fun hc => hk _ _ ⟨?_, fun hn => ?_, fun hn => ?_, h3⟩ ⟨fun i hi => xu_ne _ hi, fun k hk => ?_, fun i hi => rfl⟩⟩
  · simp only [xu_app, and_self, if_true, List.length_append, List.length_singleton]; omega
  · rw [xu_app, if_neg (by omega)]; exact (h1 (by omega)).1
  · rw [xw_app]
    rw [List.length_append, List.length_singleton] at hj
    by_cases hjl : j = B.length
    · subst hjl; rw [getD_last, if_pos ⟨rfl, by omega⟩]
    · rw [getD_snoc (by omega), if_neg (by omega)]; exact (h1 (by omega)).2 j (by omega)
  · rw [List.length_append, List.length_singleton] at hn; omega
  · rw [xw_app]; split
    · exact ⟨v0, v1⟩
    · exact h3 j
  · rw [xu_app, if_neg (by omega)]
  · rw [xu_app, if_neg (by omega), List.length_append, List.length_singleton]; omega
  · rw [List.length_append, List.length_singleton] at hn; omega
  · rw [xu_app, if_pos ⟨rfl, rfl⟩]
  · rw [xu_app, if_neg (by omega)]
theorem p_pushBig (h : xB f a B) (x0 : 0 ≤ x) (x1 : x ≤ 65535) (hd : 1 ≤ d) (hk : ∀ f' a', xB f' a' (B ++ [x / 256, x % 256]) → xF10 f a f' a' → Q (hh f' a' g, .returned none)) : xTC d 39 [.ref 10, .int (xI x)] (hh f a g) Q := by
  rw [e39]
  simp (config := {contextual := true, maxSteps := 1000000}) (disch := omega) only [r39_0, r39_1, r39_2, r39_5, r39_6, r39_6_1, r39_9, r39_10, r39_11, r39_14, r39_15, r39_15_1, r39_18, xAf_none, xAf_some, xu_app, Nat.reduceAdd, Nat.reduceSub, Nat.reduceEqDiff, Nat.reduceMul, reduceIte, and_self, and_true, true_and, and_false, false_and, true_implies, false_implies, implies_true, not_true_eq_false, not_false_eq_true, Int.reduceToNat, Int.reducePow, Int.reduceNeg, Int.reduceLT, Int.reduceLE, Int.reduceAdd, Int.reduceSub, Int.reduceMul, Int.reduceDiv, Int.reduceMod, Int.reduceEq, xA_1, xA_15, xA_255, xA_511, xA_65535, xA_32768]
  refine p_push h (by omega) (by omega) fun f1 a1 h1 F1 => ?_
  simp (config := {contextual := true, maxSteps := 1000000}) (disch := omega) only [r39_0, r39_1, r39_2, r39_5, r39_6, r39_6_1, r39_9, r39_10, r39_11, r39_14, r39_15, r39_15_1, r39_18, xAf_none, xAf_some, xu_app, Nat.reduceAdd, Nat.reduceSub, Nat.reduceEqDiff, Nat.reduceMul, reduceIte, and_self, and_true, true_and, and_false, false_and, true_implies, false_implies, implies_true, not_true_eq_false, not_false_eq_true, Int.reduceToNat, Int.reducePow, Int.reduceNeg, Int.reduceLT, Int.reduceLE, Int.reduceAdd, Int.reduceSub, Int.reduceMul, Int.reduceDiv, Int.reduceMod, Int.reduceEq, xA_1, xA_15, xA_255, xA_511, xA_65535, xA_32768]
  refine p_push h1 (by omega) (by omega) fun f2 a2 h2 F2 => ?_
  simp (config := {contextual := true, maxSteps := 1000000}) (disch := omega) only [r39_0, r39_1, r39_2, r39_5, r39_6, r39_6_1, r39_9, r39_10, r39_11, r39_14, r39_15, r39_15_1, r39_18, xAf_none, xAf_some, xu_app, Nat.reduceAdd, Nat.reduceSub, Nat.reduceEqDiff, Nat.reduceMul, reduceIte, and_self, and_true, true_and, and_false, false_and, true_implies, false_implies, implies_true, not_true_eq_false, not_false_eq_true, Int.reduceToNat, Int.reducePow, Int.reduceNeg, Int.reduceLT, Int.reduceLE, Int.reduceAdd, Int.reduceSub, Int.reduceMul, Int.reduceDiv, Int.reduceMod, Int.reduceEq, xA_1, xA_15, xA_255, xA_511, xA_65535, xA_32768]
  refine hk _ _ ?_ (F1.trans F2)
  rw [List.append_assoc] at h2; exact h2
theorem p_open (h : xB f a B) (x0 : 0 ≤ x) (x1 : x ≤ 255) (hd : 1 ≤ d) (hk : ∀ f' a', xB f' a' (B ++ [x, 0]) → xF10 f a f' a' → Q (hh f' a' g, .returned (some (.int (xI (min ((B.length : Int) + 2) 1200)))))) : xTC d 40 [.ref 10, .int (xI x)] (hh f a g) Q := by
  rw [e40]
  simp (config := {contextual := true, maxSteps := 1000000}) (disch := omega) only [r40_0, r40_1, r40_2, r40_2_1, r40_5, r40_6, r40_7, r40_7_1, r40_10, r40_11, r40_11_1, r40_14, xAf_none, xAf_some, xu_app, Nat.reduceAdd, Nat.reduceSub, Nat.reduceEqDiff, Nat.reduceMul, reduceIte, and_self, and_true, true_and, and_false, false_and, true_implies, false_implies, implies_true, not_true_eq_false, not_false_eq_true, Int.reduceToNat, Int.reducePow, Int.reduceNeg, Int.reduceLT, Int.reduceLE, Int.reduceAdd, Int.reduceSub, Int.reduceMul, Int.reduceDiv, Int.reduceMod, Int.reduceEq, xA_1, xA_15, xA_255, xA_511, xA_65535, xA_32768]
  refine p_push h (by omega) (by omega) fun f1 a1 h1 F1 => ?_
  simp (config := {contextual := true, maxSteps := 1000000}) (disch := omega) only [r40_0, r40_1, r40_2, r40_2_1, r40_5, r40_6, r40_7, r40_7_1, r40_10, r40_11, r40_11_1, r40_14, xAf_none, xAf_some, xu_app, Nat.reduceAdd, Nat.reduceSub, Nat.reduceEqDiff, Nat.reduceMul, reduceIte, and_self, and_true, true_and, and_false, false_and, true_implies, false_implies, implies_true, not_true_eq_false, not_false_eq_true, Int.reduceToNat, Int.reducePow, Int.reduceNeg, Int.reduceLT, Int.reduceLE, Int.reduceAdd, Int.reduceSub, Int.reduceMul, Int.reduceDiv, Int.reduceMod, Int.reduceEq, xA_1, xA_15, xA_255, xA_511, xA_65535, xA_32768]
  refine p_push h1 (by omega) (by omega) fun f2 a2 h2 F2 => ?_
  simp (config := {contextual := true, maxSteps := 1000000}) (disch := omega) only [r40_0, r40_1, r40_2, r40_2_1, r40_5, r40_6, r40_7, r40_7_1, r40_10, r40_11, r40_11_1, r40_14, xAf_none, xAf_some, xu_app, Nat.reduceAdd, Nat.reduceSub, Nat.reduceEqDiff, Nat.reduceMul, reduceIte, and_self, and_true, true_and, and_false, false_and, true_implies, false_implies, implies_true, not_true_eq_false, not_false_eq_true, Int.reduceToNat, Int.reducePow, Int.reduceNeg, Int.reduceLT, Int.reduceLE, Int.reduceAdd, Int.reduceSub, Int.reduceMul, Int.reduceDiv, Int.reduceMod, Int.reduceEq, xA_1, xA_15, xA_255, xA_511, xA_65535, xA_32768]
  have e : f2 10 0 = min ((B.length : Int) + 2) 1200 := by
    have := h2.1; simp only [List.length_append, List.length_singleton] at this; omega
  rw [e]
  refine hk _ _ ?_ (F1.trans F2)
  rw [List.append_assoc] at h2; exact h2
/-- the bytes of an element's size, and an element -/
def szL (m : Nat) : List Int := if m ≤ 126 then [128 + (m : Int)] else [64 + (m : Int) / 256, (m : Int) % 256]
def elL (id : Int) (body : List Int) : List Int := id :: (szL body.length ++ body)
theorem getD_app_l {A C : List Int} {j : Nat} (h : j < A.length) : (A ++ C).getD j 0 = A.getD j 0 := by
  simp [List.getD_eq_getElem?_getD, List.getElem?_append_left h]
theorem getD_app_r {A C : List Int} {j : Nat} (h : A.length ≤ j) : (A ++ C).getD j 0 = C.getD (j - A.length) 0 := by
  simp [List.getD_eq_getElem?_getD, List.getElem?_append_right h]
theorem getD_el1 {A C : List Int} {id s : Int} (j : Nat) : (A ++ (id :: s :: C)).getD j 0 = if j = A.length + 1 then s else (A ++ (id :: 0 :: C)).getD j 0 := by
  by_cases h : j < A.length
  · rw [if_neg (by omega), getD_app_l h, getD_app_l h]
  · rw [getD_app_r (by omega), getD_app_r (by omega)]
    match hk : j - A.length with
    | 0 => rw [if_neg (by omega)]; rfl
    | 1 => rw [if_pos (by omega)]; rfl
    | k + 2 => rw [if_neg (by omega)]; rfl
theorem getD_el2 {A C : List Int} {id s r : Int} (j : Nat) : (A ++ (id :: s :: r :: C)).getD j 0 = if j = A.length + 1 then s else if j = A.length + 2 then r else if j ≤ A.length then (A ++ (id :: 0 :: C)).getD j 0 else (A ++ (id :: 0 :: C)).getD (j - 1) 0 := by
  by_cases h : j < A.length
  · rw [if_neg (by omega), if_neg (by omega), if_pos (by omega), getD_app_l h, getD_app_l h]
  · rw [getD_app_r (by omega)]
    match hk : j - A.length with
    | 0 => rw [if_neg (by omega), if_neg (by omega), if_pos (by omega), getD_app_r (by omega), hk]; rfl
    | 1 => rw [if_pos (by omega)]; rfl
    | 2 => rw [if_neg (by omega), if_pos (by omega)]; rfl
    | k + 3 =>
      rw [if_neg (by omega), if_neg (by omega), if_neg (by omega), getD_app_r (by omega), show j - 1 - A.length = k + 2 by omega]; rfl
theorem szL_len (m : Nat) : (szL m).length = if m ≤ 126 then 1 else 2 := by unfold szL; split <;> rfl
theorem elL_len (id : Int) (C : List Int) : (elL id C).length = 1 + (if C.length ≤ 126 then 1 else 2) + C.length := by
  unfold elL; rw [List.length_cons, List.length_append, szL_len]; omega
theorem p_close {A C : List Int} {id : Int} (h : xB f a (A ++ (id :: 0 :: C))) (hC : C.length < 16384) (hx : x = min ((A.length : Int) + 2) 1200) (hd : 1 ≤ d) (hk : ∀ f' a', xB f' a' (A ++ elL id C) → xF10 f a f' a' → Q (hh f' a' g, .returned none)) : xTC d 41 [.ref 10, .int (xI x)] (hh f a g) Q := by
  have hl := h.len
  have hlen : (A ++ (id :: 0 :: C)).length = A.length + 2 + C.length := by simp; omega
  have hlen2 : (A ++ elL id C).length = A.length + (1 + (if C.length ≤ 126 then 1 else 2) + C.length) := by rw [List.length_append, elL_len]
  have hP := h
  obtain ⟨h0, h1, h2, h3⟩ := h
  rw [hlen] at h0 h1 h2
  rw [e41]
  by_cases hsm : f 10 0 - x ≤ 126
  · -- a size of one byte, or the draft is full
    have hc : ¬ 126 < f 10 0 - x := by omega
    have hp : 0 ≤ x - 1 ∧ x - 1 < f 10 0 := by omega
    simp (config := {contextual := true, maxSteps := 1000000}) (disch := omega) only [r41_0, r41_1, r41_1_1, r41_4, r41_5, r41_6, r41_7, r41_8, r41_10, r41_13, r41_14, r41_15, r41_16, r41_17, r41_20, r41_21, r41_22, r41_22_1, r41_25, r41_26, r41_27, r41_28, r41_28_1, r41_31, r41_32, r41_32_1, r41_35, r41_38, r41_39, r41_40, r41_40_1, r41_43, r41_44, r41_45, r41_45_1, r41_48, r41_49, r41_50, r41_51, r41_52, r41_52_1, r41_52_2, r41_52_3, r41_55, r41_56, r41_56_1, r41_59, r41_60, r41_61, r41_62, r41_64, r41_65, r41_68, r41_69, r41_70, r41_70_1, r41_71, r41_72, r41_72_1, r41_75, r41_76, r41_77, r41_80, r41_81, r41_81_1, r41_82, hc, s_put10, hp, xAf_none, xAf_some, xu_app, Nat.reduceAdd, Nat.reduceSub, Nat.reduceEqDiff, Nat.reduceMul, reduceIte, and_self, and_true, true_and, and_false, false_and, true_implies, false_implies, implies_true, not_true_eq_false, not_false_eq_true, Int.reduceToNat, Int.reducePow, Int.reduceNeg, Int.reduceLT, Int.reduceLE, Int.reduceAdd, Int.reduceSub, Int.reduceMul, Int.reduceDiv, Int.reduceMod, Int.reduceEq, xA_1, xA_15, xA_255, xA_511, xA_65535, xA_32768]
    refine hk _ _ ⟨?_, fun hn => ⟨?_, fun j hj => ?_⟩, fun hn => ?_, fun j => ?_⟩ ⟨fun _ _ => rfl, fun _ _ => rfl, fun i hi => xw_ne _ hi⟩
    · rw [hlen2]; split <;> omega
    · rw [hlen2] at hn; exact (h1 (by split at hn <;> omega)).1
    · rw [hlen2] at hn hj
      have hn' : A.length + 2 + C.length ≤ 1200 := by split at hn <;> omega
      have hC1 : C.length ≤ 126 := by omega
      rw [if_pos hC1] at hn hj
      unfold elL szL
      rw [if_pos hC1]
      show xw a 11 (x - 1) _ 11 _ = (A ++ (id :: (128 + (C.length : Int)) :: C)).getD j 0
      rw [getD_el1, xw_app]
      by_cases hj1 : j = A.length + 1
      · rw [if_pos hj1, if_pos ⟨rfl, by omega⟩]; omega
      · rw [if_neg hj1, if_neg (by omega)]; exact (h1 hn').2 j (by omega)
    · rw [hlen2] at hn
      by_cases hn' : A.length + 2 + C.length ≤ 1200
      · have hC1 : C.length ≤ 126 := by omega
        rw [if_pos hC1] at hn; omega
      · exact h2 (by omega)
    · rw [xw_app]; split
      · omega
      · exact h3 j
  · have hc : 126 < f 10 0 - x := by omega
    have hC1 : ¬ C.length ≤ 126 := by omega
    rw [if_neg hC1] at hlen2
    simp (config := {contextual := true, maxSteps := 1000000}) (disch := omega) only [r41_0, r41_1, r41_1_1, r41_4, r41_5, r41_6, r41_7, r41_8, r41_10, r41_13, r41_14, r41_15, r41_16, r41_17, r41_20, r41_21, r41_22, r41_22_1, r41_25, r41_26, r41_27, r41_28, r41_28_1, r41_31, r41_32, r41_32_1, r41_35, r41_38, r41_39, r41_40, r41_40_1, r41_43, r41_44, r41_45, r41_45_1, r41_48, r41_49, r41_50, r41_51, r41_52, r41_52_1, r41_52_2, r41_52_3, r41_55, r41_56, r41_56_1, r41_59, r41_60, r41_61, r41_62, r41_64, r41_65, r41_68, r41_69, r41_70, r41_70_1, r41_71, r41_72, r41_72_1, r41_75, r41_76, r41_77, r41_80, r41_81, r41_81_1, r41_82, hc, xAf_none, xAf_some, xu_app, Nat.reduceAdd, Nat.reduceSub, Nat.reduceEqDiff, Nat.reduceMul, reduceIte, and_self, and_true, true_and, and_false, false_and, true_implies, false_implies, implies_true, not_true_eq_false, not_false_eq_true, Int.reduceToNat, Int.reducePow, Int.reduceNeg, Int.reduceLT, Int.reduceLE, Int.reduceAdd, Int.reduceSub, Int.reduceMul, Int.reduceDiv, Int.reduceMod, Int.reduceEq, xA_1, xA_15, xA_255, xA_511, xA_65535, xA_32768]
    refine p_push hP (v := 0) (by omega) (by omega) fun f1 a1 B1 F1 => ?_
    obtain ⟨b0, b1, b2, b3⟩ := B1
    have hlen3 : (A ++ (id :: 0 :: C) ++ [0]).length = A.length + 2 + C.length + 1 := by rw [List.length_append, hlen]; rfl
    rw [hlen3] at b0 b1 b2
    by_cases hf : A.length + 2 + C.length + 1 ≤ 1200
    · have hfull : f1 10 1 = 0 := (b1 hf).1
      have hx2 : x = (A.length : Int) + 2 := by omega
      have hmany : f 10 0 - x = C.length := by omega
      simp (config := {contextual := true, maxSteps := 1000000}) (disch := omega) only [r41_0, r41_1, r41_1_1, r41_4, r41_5, r41_6, r41_7, r41_8, r41_10, r41_13, r41_14, r41_15, r41_16, r41_17, r41_20, r41_21, r41_22, r41_22_1, r41_25, r41_26, r41_27, r41_28, r41_28_1, r41_31, r41_32, r41_32_1, r41_35, r41_38, r41_39, r41_40, r41_40_1, r41_43, r41_44, r41_45, r41_45_1, r41_48, r41_49, r41_50, r41_51, r41_52, r41_52_1, r41_52_2, r41_52_3, r41_55, r41_56, r41_56_1, r41_59, r41_60, r41_61, r41_62, r41_64, r41_65, r41_68, r41_69, r41_70, r41_70_1, r41_71, r41_72, r41_72_1, r41_75, r41_76, r41_77, r41_80, r41_81, r41_81_1, r41_82, hfull, hmany, xAf_none, xAf_some, xu_app, Nat.reduceAdd, Nat.reduceSub, Nat.reduceEqDiff, Nat.reduceMul, reduceIte, and_self, and_true, true_and, and_false, false_and, true_implies, false_implies, implies_true, not_true_eq_false, not_false_eq_true, Int.reduceToNat, Int.reducePow, Int.reduceNeg, Int.reduceLT, Int.reduceLE, Int.reduceAdd, Int.reduceSub, Int.reduceMul, Int.reduceDiv, Int.reduceMod, Int.reduceEq, xA_1, xA_15, xA_255, xA_511, xA_65535, xA_32768]
      refine hk _ _ ⟨?_, fun hn => ⟨?_, fun j hj => ?_⟩, fun hn => ?_, fun j => ?_⟩ ?_
      · rw [hlen2]; omega
      · exact hfull
      · rw [hlen2] at hj
        unfold elL szL
        rw [if_neg hC1]
        show xw (xw _ _ _ _) _ _ _ 11 _ = (A ++ (id :: (64 + (C.length : Int) / 256) :: ((C.length : Int) % 256) :: C)).getD j 0
        rw [getD_el2, xw_app, xw_app, xcp_app]
        by_cases hj1 : j = A.length + 1
        · rw [if_pos hj1, if_neg (by omega), if_pos ⟨rfl, by omega⟩]
        · rw [if_neg hj1]
          by_cases hj2 : j = A.length + 2
          · rw [if_pos hj2, if_pos ⟨rfl, by omega⟩]
          · rw [if_neg hj2, if_neg (by omega), if_neg (by omega)]
            by_cases hj3 : j ≤ A.length
            · rw [if_pos hj3, if_neg (by omega), (b1 hf).2 j (by omega), getD_snoc (by omega)]
            · rw [if_neg hj3, if_pos ⟨rfl, by omega, by omega⟩]
              have := (b1 hf).2 (j - 1) (by omega)
              rw [getD_snoc (by omega)] at this
              rw [← this]
              congr 1; omega
      · rw [hlen2] at hn; omega
      · rw [xw_app, xw_app, xcp_app]
        have hb1 := b3 j
        have hb2 := b3 (x + (j - (x + 1)))
        split
        · omega
        · split
          · omega
          · split <;> assumption
      · refine F1.trans ⟨fun _ _ => rfl, fun _ _ => rfl, fun i hi => ?_⟩
        rw [xw_ne _ hi, xw_ne _ hi, xcp_ne _ hi]
    · have hfull : ¬ f1 10 1 = 0 := by have := b2 (by omega); omega
      have hfr : -2147483648 ≤ f1 10 1 ∧ f1 10 1 ≤ 2147483647 := by have := b2 (by omega); omega
      simp (config := {contextual := true, maxSteps := 1000000}) (disch := omega) only [r41_0, r41_1, r41_1_1, r41_4, r41_5, r41_6, r41_7, r41_8, r41_10, r41_13, r41_14, r41_15, r41_16, r41_17, r41_20, r41_21, r41_22, r41_22_1, r41_25, r41_26, r41_27, r41_28, r41_28_1, r41_31, r41_32, r41_32_1, r41_35, r41_38, r41_39, r41_40, r41_40_1, r41_43, r41_44, r41_45, r41_45_1, r41_48, r41_49, r41_50, r41_51, r41_52, r41_52_1, r41_52_2, r41_52_3, r41_55, r41_56, r41_56_1, r41_59, r41_60, r41_61, r41_62, r41_64, r41_65, r41_68, r41_69, r41_70, r41_70_1, r41_71, r41_72, r41_72_1, r41_75, r41_76, r41_77, r41_80, r41_81, r41_81_1, r41_82, hfull, xAf_none, xAf_some, xu_app, Nat.reduceAdd, Nat.reduceSub, Nat.reduceEqDiff, Nat.reduceMul, reduceIte, and_self, and_true, true_and, and_false, false_and, true_implies, false_implies, implies_true, not_true_eq_false, not_false_eq_true, Int.reduceToNat, Int.reducePow, Int.reduceNeg, Int.reduceLT, Int.reduceLE, Int.reduceAdd, Int.reduceSub, Int.reduceMul, Int.reduceDiv, Int.reduceMod, Int.reduceEq, xA_1, xA_15, xA_255, xA_511, xA_65535, xA_32768]
      refine hk _ _ ⟨?_, fun hn => ?_, fun hn => ?_, b3⟩ F1
      · rw [hlen2]; omega
      · rw [hlen2] at hn; omega
      · exact b2 (by omega)
theorem p_byteEl (h : xB f a B) (x0 : 0 ≤ x) (x1 : x ≤ 255) (y0 : 0 ≤ y) (y1 : y ≤ 255) (hd : 2 ≤ d) (hk : ∀ f' a', xB f' a' (B ++ elL x [y]) → xF10 f a f' a' → Q (hh f' a' g, .returned none)) : xTC d 43 [.ref 10, .int (xI x), .int (xI y)] (hh f a g) Q := by
  rw [e43]
  simp (config := {contextual := true, maxSteps := 1000000}) (disch := omega) only [r43_0, r43_1, r43_2, r43_2_1, r43_5, r43_6, r43_7, r43_8, r43_8_1, r43_11, r43_12, r43_13, r43_13_1, r43_16, xAf_none, xAf_some, xu_app, Nat.reduceAdd, Nat.reduceSub, Nat.reduceEqDiff, Nat.reduceMul, reduceIte, and_self, and_true, true_and, and_false, false_and, true_implies, false_implies, implies_true, not_true_eq_false, not_false_eq_true, Int.reduceToNat, Int.reducePow, Int.reduceNeg, Int.reduceLT, Int.reduceLE, Int.reduceAdd, Int.reduceSub, Int.reduceMul, Int.reduceDiv, Int.reduceMod, Int.reduceEq, xA_1, xA_15, xA_255, xA_511, xA_65535, xA_32768]
  refine p_open h x0 x1 (by omega) fun f1 a1 h1 F1 => ?_
  simp (config := {contextual := true, maxSteps := 1000000}) (disch := omega) only [r43_0, r43_1, r43_2, r43_2_1, r43_5, r43_6, r43_7, r43_8, r43_8_1, r43_11, r43_12, r43_13, r43_13_1, r43_16, xAf_none, xAf_some, xu_app, Nat.reduceAdd, Nat.reduceSub, Nat.reduceEqDiff, Nat.reduceMul, reduceIte, and_self, and_true, true_and, and_false, false_and, true_implies, false_implies, implies_true, not_true_eq_false, not_false_eq_true, Int.reduceToNat, Int.reducePow, Int.reduceNeg, Int.reduceLT, Int.reduceLE, Int.reduceAdd, Int.reduceSub, Int.reduceMul, Int.reduceDiv, Int.reduceMod, Int.reduceEq, xA_1, xA_15, xA_255, xA_511, xA_65535, xA_32768]
  refine p_push h1 y0 y1 fun f2 a2 h2 F2 => ?_
  simp (config := {contextual := true, maxSteps := 1000000}) (disch := omega) only [r43_0, r43_1, r43_2, r43_2_1, r43_5, r43_6, r43_7, r43_8, r43_8_1, r43_11, r43_12, r43_13, r43_13_1, r43_16, xAf_none, xAf_some, xu_app, Nat.reduceAdd, Nat.reduceSub, Nat.reduceEqDiff, Nat.reduceMul, reduceIte, and_self, and_true, true_and, and_false, false_and, true_implies, false_implies, implies_true, not_true_eq_false, not_false_eq_true, Int.reduceToNat, Int.reducePow, Int.reduceNeg, Int.reduceLT, Int.reduceLE, Int.reduceAdd, Int.reduceSub, Int.reduceMul, Int.reduceDiv, Int.reduceMod, Int.reduceEq, xA_1, xA_15, xA_255, xA_511, xA_65535, xA_32768]
  rw [List.append_assoc] at h2
  refine p_close (A := B) (C := [y]) h2 (Nat.le_of_ble_eq_true rfl) rfl (by omega) fun f3 a3 h3 F3 => ?_
  simp (config := {contextual := true, maxSteps := 1000000}) (disch := omega) only [r43_0, r43_1, r43_2, r43_2_1, r43_5, r43_6, r43_7, r43_8, r43_8_1, r43_11, r43_12, r43_13, r43_13_1, r43_16, xAf_none, xAf_some, xu_app, Nat.reduceAdd, Nat.reduceSub, Nat.reduceEqDiff, Nat.reduceMul, reduceIte, and_self, and_true, true_and, and_false, false_and, true_implies, false_implies, implies_true, not_true_eq_false, not_false_eq_true, Int.reduceToNat, Int.reducePow, Int.reduceNeg, Int.reduceLT, Int.reduceLE, Int.reduceAdd, Int.reduceSub, Int.reduceMul, Int.reduceDiv, Int.reduceMod, Int.reduceEq, xA_1, xA_15, xA_255, xA_511, xA_65535, xA_32768]
  exact hk _ _ h3 ((F1.trans F2).trans F3)
end S40
