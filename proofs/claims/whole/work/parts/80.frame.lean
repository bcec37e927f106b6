/-! THE FRAMES -/
/-- a frame: where it fails, or the place behind it, its time, and where its slices lie -/
def frR (F : Int → Int) (be w h pn md sl pl lt : Int) (no : Int → Prop) (ok : Int → Int → Int → Prop) : Prop :=
  ((enF F 31 be pl).1 = 1 → no (enF F 31 be pl).2.1) ∧ ((enF F 31 be pl).1 = 0 →
    ∀ fe a1, fe = (enF F 31 be pl).2.2.1 → a1 = (enF F 31 be pl).2.1 →
    ((nuF F 231 2 (lt + 1) 65535 fe a1).1 = 1 → no (nuF F 231 2 (lt + 1) 65535 fe a1).2.1) ∧ ((nuF F 231 2 (lt + 1) 65535 fe a1).1 = 0 →
      ∀ a2 t, a2 = (nuF F 231 2 (lt + 1) 65535 fe a1).2.1 → t = (nuF F 231 2 (lt + 1) 65535 fe a1).2.2 →
      ((enF F 163 fe a2).1 = 1 → no (enF F 163 fe a2).2.1) ∧ ((enF F 163 fe a2).1 = 0 →
        ∀ ke a3, ke = (enF F 163 fe a2).2.2.1 → a3 = (enF F 163 fe a2).2.1 →
        ∀ o, bkR F md sl w h pn ke sl.toNat 0 a3 o → (o ≠ -1 → no o) ∧ (o = -1 →
          ((lvF F fe ke).2 = 1 → no (lvF F fe ke).1) ∧ ((lvF F fe ke).2 = 0 →
            ((pas F be (lvF F fe ke).1).2 = 1 → no (pas F be (lvF F fe ke).1).1) ∧ ((pas F be (lvF F fe ke).1).2 = 0 → ok (pas F be (lvF F fe ke).1).1 t a3))))))
/-- what reading a film changes -/
def xFR (f : Nat → Nat → Int) (a : Nat → Int → Int) (f' : Nat → Nat → Int) (a' : Nat → Int → Int) : Prop :=
  (∀ i, i ≠ 5 → i ≠ 8 → i ≠ 10 → i ≠ 12 → i ≠ 14 → i ≠ 17 → i ≠ 20 → f' i = f i) ∧ (∀ k, k ≤ 2 → f' 8 k = f 8 k) ∧ (∀ i, i ≠ 6 → i ≠ 7 → i ≠ 11 → i ≠ 13 → i ≠ 15 → i ≠ 16 → i ≠ 18 → a' i = a i) ∧ ((∀ j, -256 ≤ a 7 j ∧ a 7 j ≤ 511) → ∀ j, -256 ≤ a' 7 j ∧ a' 7 j ≤ 511) ∧ ((∀ j, -1000 ≤ a 13 j ∧ a 13 j ≤ 1000) → ∀ j, -1000 ≤ a' 13 j ∧ a' 13 j ≤ 1000) ∧ ((∀ j, 0 ≤ a 11 j ∧ a 11 j ≤ 255) → ∀ j, 0 ≤ a' 11 j ∧ a' 11 j ≤ 255)
theorem xFR.trans {f f' f'' : Nat → Nat → Int} {a a' a'' : Nat → Int → Int} (h : xFR f a f' a') (h' : xFR f' a' f'' a'') : xFR f a f'' a'' :=
  ⟨fun i i1 i2 i3 i4 i5 i6 i7 => (h'.1 i i1 i2 i3 i4 i5 i6 i7).trans (h.1 i i1 i2 i3 i4 i5 i6 i7), fun k hk => (h'.2.1 k hk).trans (h.2.1 k hk), fun i i1 i2 i3 i4 i5 i6 i7 => (h'.2.2.1 i i1 i2 i3 i4 i5 i6 i7).trans (h.2.2.1 i i1 i2 i3 i4 i5 i6 i7), fun z => h'.2.2.2.1 (h.2.2.2.1 z), fun z => h'.2.2.2.2.1 (h.2.2.2.2.1 z), fun z => h'.2.2.2.2.2 (h.2.2.2.2.2 z)⟩
theorem xFR.of20 {f f' : Nat → Nat → Int} {a : Nat → Int → Int} (h : ∀ i, i ≠ 20 → i ≠ 5 → f' i = f i) : xFR f a f' a :=
  ⟨fun i i1 _ _ _ _ _ i7 => h i i7 i1, fun k _ => by rw [h 8 (by decide) (by decide)], fun _ _ _ _ _ _ _ _ => rfl, id, id, id⟩
theorem xFq.R {f f' : Nat → Nat → Int} {a : Nat → Int → Int} (h : xFq f f') : xFR f a f' a := xFR.of20 fun i h1 _ => h.1 i h1
theorem xFb.R {fr : Int} {f f' : Nat → Nat → Int} {a a' : Nat → Int → Int} (h : xFb fr f a f' a') : xFR f a f' a' :=
  ⟨fun i _ i2 i3 i4 i5 i6 i7 => h.1 i i2 i3 i4 i5 i6 i7, h.2.1, fun i _ i2 i3 i4 i5 i6 i7 => h.2.2.2.1 i i2 i3 i4 i5 i6 i7, h.2.2.2.2.2.1, h.2.2.2.2.2.2.1, h.2.2.2.2.2.2.2⟩
theorem psF_stop {F : Int → Int} {en : Int} (hF : ∀ j, 0 ≤ F j ∧ F j ≤ 255) (m : Nat) : ∀ pl, en - pl < m → pl ≤ en → (psF F en m pl).2 = 0 → ¬ ((psF F en m pl).1 < en ∧ F (psF F en m pl).1 = 236) := by
  induction m with
  | zero => intro pl h1 h2; omega
  | succ m ih =>
    intro pl h1 h2
    unfold psF
    by_cases c1 : pl < en ∧ F pl = 236
    · rw [if_pos c1]
      by_cases c2 : szOK F en (pl + 1)
      · rw [if_pos c2]
        have hb := sz_bd hF c2
        exact ih _ (by omega) (by omega)
      · rw [if_neg c2]; intro z; exact absurd (show (1 : Int) = 0 from z) (by decide)
    · rw [if_neg c1]; intro _; exact c1
theorem pas_stop {F : Int → Int} {en pl : Int} (hF : ∀ j, 0 ≤ F j ∧ F j ≤ 255) (p0 : 0 ≤ pl) (p1 : pl ≤ en) (hen : en ≤ 1200) (h : (pas F en pl).2 = 0) : ¬ ((pas F en pl).1 < en ∧ F (pas F en pl).1 = 236) := psF_stop hF 1201 pl (by omega) p1 h
theorem pas_no {F : Int → Int} {en pl : Int} (h : ¬ (pl < en ∧ F pl = 236)) : pas F en pl = (pl, 0) := by
  unfold pas; rw [show (1201 : Nat) = 1200 + 1 from rfl]; unfold psF; rw [if_neg h]
theorem bkS_congr {F : Int → Int} {md sl w h pn : Int} {S S' : Int → Int} {k : Int} (hs : sl = 1 ∨ sl = 2 ∨ sl = 3) (h0 : 0 ≤ h) (h1 : h ≤ 6) (w1 : w ≤ 6) (hS : ∀ j, 108 * k ≤ j → j < 108 * k + 108 → S j = S' j) (p1 : pn ≤ 3) (n : Nat) : ∀ i pl, 0 ≤ i → i + n = sl → bkS F md sl w h pn S k n i pl → bkS F md sl w h pn S' k n i pl := by
  induction n with
  | zero => intro i pl _ _ _; trivial
  | succ n ih =>
    intro i pl i0 hi hB
    have hr := row_bd hs i0 (by omega) h0
    obtain ⟨⟨V, hV, hS2⟩, hB2⟩ := hB
    refine ⟨⟨V, hV, fun p y x k0 k1 q0 q1 x0 x1 => ?_⟩, ih (i + 1) _ (by omega) (by omega) hB2⟩
    rw [← hS _ (by unfold stPl; omega) (by unfold stPl; omega)]
    exact hS2 p y x k0 k1 q0 q1 x0 x1
section S80
variable {d : Nat} {Q : xm_H × Outcome → Prop} {g : xG} {f : Nat → Nat → Int} {a : Nat → Int → Int} {F : Int → Int} {ln be pl o te r w h pn md sl lt k : Int} {l2 l3 l4 : Value}
/-- behind a fault nothing happens -/
theorem f_d65 (hD : dd f o) (hbe : 0 ≤ f 20 8) (hbe1 : f 20 8 ≤ 1200) (te0 : -1 ≤ te) (te1 : te ≤ 1200) (hd : 3 ≤ d) (hk : Q (hh f a g, .returned none)) : xT d 92 65 [.ref 20, .int (xI k), .int (xI te), l3, l4] [] (hh f a g) Q := by
  obtain ⟨h7, o0, o1, h60, h61⟩ := hD
  have q1 : ¬ f 20 7 = -1 := by omega
  have q2 : -1 ≤ f 20 7 := by omega
  have q3 : f 20 7 ≤ 100000 := by omega
  simp (config := {contextual := true, maxSteps := 1000000}) (disch := omega) only [r92_0, r92_1, r92_3, r92_4, r92_7, r92_10, r92_11, r92_12, r92_15, r92_16, r92_17, r92_20, r92_23, r92_24, r92_25, r92_27, r92_28, r92_31, r92_32, r92_33, r92_36, r92_37, r92_40, r92_42, r92_43, r92_46, r92_47_T, r92_47_F, r92_47, r92_50, r92_51, r92_54, r92_55, r92_58, r92_59, r92_60, r92_62, r92_65, r92_66, r92_67, r92_70, r92_71, r92_72, r92_75, r92_78, d_leave, d_empty, q1, xAf_none, xAf_some, xu_app, Nat.reduceAdd, Nat.reduceSub, Nat.reduceEqDiff, Nat.reduceMul, reduceIte, and_self, and_true, true_and, and_false, false_and, true_implies, false_implies, implies_true, not_true_eq_false, not_false_eq_true, Int.reduceToNat, Int.reducePow, Int.reduceNeg, Int.reduceLT, Int.reduceLE, Int.reduceAdd, Int.reduceSub, Int.reduceMul, Int.reduceDiv, Int.reduceMod, Int.reduceEq, xA_1, xA_15, xA_255, xA_511, xA_65535, xA_32768]
  exact hk
theorem f_d32 (hby : ∀ j, 0 ≤ a 9 j ∧ a 9 j ≤ 255) (hl0 : 0 ≤ f 8 0) (hl1 : f 8 0 ≤ 1200) (hD : dd f o) (hbe : 0 ≤ f 20 8) (hbe1 : f 20 8 ≤ 1200) (te0 : -1 ≤ te) (te1 : te ≤ 1200) (hd : 5 ≤ d) {b3 : Int32} (hk : Q (hh f a g, .returned none)) : xT d 92 32 [.ref 20, .int (xI k), .int (xI te), .int b3, l4] [] (hh f a g) Q := by
  have hfin := fun l => f_d65 (d := d) (Q := Q) (g := g) (a := a) (k := k) (l3 := .int b3) (l4 := l) hD hbe hbe1 te0 te1 (by omega) hk
  obtain ⟨h7, o0, o1, h60, h61⟩ := hD
  have q1 : ¬ f 20 7 = -1 := by omega
  have q2 : -1 ≤ f 20 7 := by omega
  have q3 : f 20 7 ≤ 100000 := by omega
  simp (config := {contextual := true, maxSteps := 1000000}) (disch := omega) only [r92_0, r92_1, r92_3, r92_4, r92_7, r92_10, r92_11, r92_12, r92_15, r92_16, r92_17, r92_20, r92_23, r92_24, r92_25, r92_27, r92_28, r92_31, r92_32, r92_33, r92_36, r92_37, r92_40, r92_42, r92_43, r92_46, r92_47_T, r92_47_F, r92_47, r92_50, r92_51, r92_54, r92_55, r92_58, r92_59, r92_60, r92_62, r92_66, r92_67, r92_70, r92_71, r92_72, r92_75, r92_78, d_enter (hF := hby), q1, xAf_none, xAf_some, xu_app, Nat.reduceAdd, Nat.reduceSub, Nat.reduceEqDiff, Nat.reduceMul, reduceIte, and_self, and_true, true_and, and_false, false_and, true_implies, false_implies, implies_true, not_true_eq_false, not_false_eq_true, Int.reduceToNat, Int.reducePow, Int.reduceNeg, Int.reduceLT, Int.reduceLE, Int.reduceAdd, Int.reduceSub, Int.reduceMul, Int.reduceDiv, Int.reduceMod, Int.reduceEq, xA_1, xA_15, xA_255, xA_511, xA_65535, xA_32768]
  exact hfin _
set_option maxRecDepth 100000 in
set_option maxHeartbeats 1000000 in
theorem p_takeFrame (hF : ∀ j, 0 ≤ F j ∧ F j ≤ 255) (h9 : a 9 = F) (h80 : f 8 0 = ln) (hln : ln ≤ 1200) (h7 : f 20 7 = -1) (h6 : f 20 6 = pl) (h8 : f 20 8 = be) (h10 : f 20 10 = md) (h11 : f 20 11 = sl) (p0 : 0 ≤ pl) (p1 : pl ≤ be) (hbe : be ≤ ln) (hmd : md = 0 ∨ md = 1) (hs : sl = 1 ∨ sl = 2 ∨ sl = 3) (w0 : 1 ≤ w) (w1 : w ≤ 6) (h0 : 1 ≤ h) (h1 : h ≤ 6) (hp : pn = 1 ∨ pn = 3) (hw : f 5 0 = w) (hhh : f 5 1 = h) (hpn : f 5 2 = pn) (h53 : f 5 3 = k) (k0 : 0 ≤ k) (k3 : k < 3) (lt0 : -1 ≤ lt) (lt1 : lt ≤ 65535) (hlt0 : k = 0 → lt = -1) (hlt1 : k ≠ 0 → a 6 (k - 1) = lt) (hV : ∀ j, -1000 ≤ a 13 j ∧ a 13 j ≤ 1000) (hB : ∀ j, 0 ≤ a 11 j ∧ a 11 j ≤ 255) (hd : 8 ≤ d)
    (hk : frR F be w h pn md sl pl lt
      (fun o => ∀ f' a', dd f' o → f' 20 8 = be → xFR f a f' a' → Q (hh f' a' g, .returned none))
      (fun pl' t bs => ∀ f' a', f' 20 7 = -1 → f' 20 6 = pl' → f' 20 8 = be → f' 20 10 = md → f' 20 11 = sl → f' 5 0 = w → f' 5 1 = h → f' 5 2 = pn → f' 5 3 = k + 1 → a' 6 k = t → (∀ j, j ≠ k → a' 6 j = a 6 j) → (∀ j, j < 108 * k ∨ 108 * k + 108 ≤ j → a' 7 j = a 7 j) → bkS F md sl w h pn (a' 7) k sl.toNat 0 bs → 0 ≤ pl' → pl' ≤ be → 0 ≤ t → t ≤ 65535 → ¬ (pl' < be ∧ F pl' = 236) → xFR f a f' a' → Q (hh f' a' g, .returned none))) :
    xTC d 92 [.ref 20, .int (xI k)] (hh f a g) Q := by
  have hby : ∀ j, 0 ≤ a 9 j ∧ a 9 j ≤ 255 := fun j => by rw [h9]; exact hF j
  have hb1 := enF_bd (id := 31) (en := be) (pl := pl) hF p1
  obtain ⟨hk1, hk2⟩ := hk
  rw [e92]
  simp (config := {contextual := true, maxSteps := 1000000}) (disch := omega) only [r92_0, r92_1, r92_3, r92_4, r92_7, r92_10, r92_11, r92_12, r92_15, r92_16, r92_17, r92_20, r92_23, r92_24, r92_25, r92_27, r92_28, r92_31, r92_32, r92_33, r92_36, r92_37, r92_40, r92_42, r92_43, r92_46, r92_47_T, r92_47_F, r92_47, r92_50, r92_51, r92_54, r92_55, r92_58, r92_59, r92_60, r92_62, r92_65, r92_66, r92_67, r92_70, r92_71, r92_72, r92_75, r92_78, h8, xAf_none, xAf_some, xu_app, Nat.reduceAdd, Nat.reduceSub, Nat.reduceEqDiff, Nat.reduceMul, reduceIte, and_self, and_true, true_and, and_false, false_and, true_implies, false_implies, implies_true, not_true_eq_false, not_false_eq_true, Int.reduceToNat, Int.reducePow, Int.reduceNeg, Int.reduceLT, Int.reduceLE, Int.reduceAdd, Int.reduceSub, Int.reduceMul, Int.reduceDiv, Int.reduceMod, Int.reduceEq, xA_1, xA_15, xA_255, xA_511, xA_65535, xA_32768]
  refine p_enter (F := F) (pl := pl) hF h9 (by omega) (by omega) h6 h7 p0 p1 (by omega) (by omega) (by omega) (fun hf f1 r g7 g6 F1 hr => ?_) (fun hf f1 g7 g6 g9 F1 => ?_)
  · have e80 : f1 8 0 = ln := by rw [F1.1 8 (by decide)]; exact h80
    have e8 : f1 20 8 = be := by rw [F1.2 8 (by decide) (by decide) (by decide)]; exact h8
    have e53 : f1 5 3 = k := by rw [F1.1 5 (by decide)]; exact h53
    have hD : dd f1 (enF F 31 be pl).2.1 := ⟨g7, by omega, by omega, by omega, by omega⟩
    have hfin := hk1 hf f1 a hD e8 F1.R
    have q1 : ¬ f1 20 7 = -1 := by omega
    have q2 : -1 ≤ f1 20 7 := by omega
    have q3 : f1 20 7 ≤ 100000 := by omega
    have q4 : 0 ≤ f1 20 6 := by omega
    have q5 : f1 20 6 ≤ 1200 := by omega
    have q6 : 0 ≤ f1 8 0 := by omega
    have q7 : f1 8 0 ≤ 1200 := by omega
    have r0 : -1 ≤ r := by omega
    have r1 : r ≤ 1200 := by omega
    have hgo : ∀ b3, xT d 92 32 [.ref 20, .int (xI k), .int (xI r), .int b3, .null] [] (hh f1 a g) Q := fun b3 => f_d32 hby q6 q7 hD (by omega) (by omega) r0 r1 (by omega) hfin
    by_cases hk0 : k = 0
    · have ek : f1 5 3 = 0 := by omega
      have Lt : ∀ (d : Nat) (Q : xm_H × Outcome → Prop), xTC d 35 [.ref 5] (hh f1 a g) Q ↔ Q (hh f1 a g, .returned (some (.int (xI (-1))))) := fun d Q => by
        rw [s_lastTime5 (by omega) (by omega)]; exact ⟨fun z => z.1 ek, fun z => ⟨fun _ => z, fun z' => absurd ek z'⟩⟩
      simp (config := {contextual := true, maxSteps := 1000000}) (disch := omega) only [r92_0, r92_1, r92_3, r92_4, r92_7, r92_10, r92_11, r92_12, r92_15, r92_16, r92_17, r92_20, r92_23, r92_24, r92_25, r92_27, r92_28, r92_31, r92_33, r92_36, r92_37, r92_40, r92_42, r92_43, r92_46, r92_47_T, r92_47_F, r92_47, r92_50, r92_51, r92_54, r92_55, r92_58, r92_59, r92_60, r92_62, r92_65, r92_66, r92_67, r92_70, r92_71, r92_72, r92_75, r92_78, Lt, d_number (hF := hby), xAf_none, xAf_some, xu_app, Nat.reduceAdd, Nat.reduceSub, Nat.reduceEqDiff, Nat.reduceMul, reduceIte, and_self, and_true, true_and, and_false, false_and, true_implies, false_implies, implies_true, not_true_eq_false, not_false_eq_true, Int.reduceToNat, Int.reducePow, Int.reduceNeg, Int.reduceLT, Int.reduceLE, Int.reduceAdd, Int.reduceSub, Int.reduceMul, Int.reduceDiv, Int.reduceMod, Int.reduceEq, xA_1, xA_15, xA_255, xA_511, xA_65535, xA_32768]
      exact hgo _
    · have ek : ¬ f1 5 3 = 0 := by omega
      have Lt : ∀ (d : Nat) (Q : xm_H × Outcome → Prop), xTC d 35 [.ref 5] (hh f1 a g) Q ↔ Q (hh f1 a g, .returned (some (.int (xI lt)))) := fun d Q => by
        rw [s_lastTime5 (by omega) (by omega), e53, hlt1 hk0]; exact ⟨fun z => z.2 hk0, fun z => ⟨fun z' => absurd z' hk0, fun _ => z⟩⟩
      simp (config := {contextual := true, maxSteps := 1000000}) (disch := omega) only [r92_0, r92_1, r92_3, r92_4, r92_7, r92_10, r92_11, r92_12, r92_15, r92_16, r92_17, r92_20, r92_23, r92_24, r92_25, r92_27, r92_28, r92_31, r92_33, r92_36, r92_37, r92_40, r92_42, r92_43, r92_46, r92_47_T, r92_47_F, r92_47, r92_50, r92_51, r92_54, r92_55, r92_58, r92_59, r92_60, r92_62, r92_65, r92_66, r92_67, r92_70, r92_71, r92_72, r92_75, r92_78, Lt, d_number (hF := hby), xAf_none, xAf_some, xu_app, Nat.reduceAdd, Nat.reduceSub, Nat.reduceEqDiff, Nat.reduceMul, reduceIte, and_self, and_true, true_and, and_false, false_and, true_implies, false_implies, implies_true, not_true_eq_false, not_false_eq_true, Int.reduceToNat, Int.reducePow, Int.reduceNeg, Int.reduceLT, Int.reduceLE, Int.reduceAdd, Int.reduceSub, Int.reduceMul, Int.reduceDiv, Int.reduceMod, Int.reduceEq, xA_1, xA_15, xA_255, xA_511, xA_65535, xA_32768]
      exact hgo _
  · have hb1' := hb1.2.2.resolve_left (by omega)
    have hk3 := hk2 hf _ _ rfl rfl
    obtain ⟨a1, ha1⟩ : ∃ a1, (enF F 31 be pl).2.1 = a1 := ⟨_, rfl⟩
    obtain ⟨fe, hfe⟩ : ∃ fe, (enF F 31 be pl).2.2.1 = fe := ⟨_, rfl⟩
    rw [ha1, hfe] at hk3
    rw [ha1] at g6 hb1 hb1'
    rw [hfe] at hb1' ⊢
    have e80 : f1 8 0 = ln := by rw [F1.1 8 (by decide)]; exact h80
    have e8 : f1 20 8 = be := by rw [F1.2 8 (by decide) (by decide) (by decide)]; exact h8
    have e53 : f1 5 3 = k := by rw [F1.1 5 (by decide)]; exact h53
    have hb2 := nuF_bd (id := 231) (n := 2) (lo := lt + 1) (hi := 65535) (en := fe) (pl := a1) hF (by omega)
    have hnum : xTC (d - 1) 85 [.ref 20, .int (xI 231), .int (xI 2), .int (xI (lt + 1)), .int (xI 65535), .int (xI fe)] (hh f1 a g) (xAf d 92 28 [.ref 20, .int (xI k), .int (xI fe), .null, .null] [] Q) := by
      refine p_number (F := F) (pl := a1) (n := 2) hF h9 (by omega) (by omega) g6 g7 (by omega) (by omega) (by omega) (by omega) (.inr rfl) (by omega) (by omega) (by omega) (by omega) (by omega) (fun hf2 f2 r g72 g60 g61 F2 r0 => ?_) (fun hf2 f2 g72 g62 F2 => ?_)
      · have e82 : f2 8 0 = ln := by rw [F2.1 8 (by decide)]; exact e80
        have e28 : f2 20 8 = be := by rw [F2.2 8 (by decide) (by decide) (by decide)]; exact e8
        have hD : dd f2 (nuF F 231 2 (lt + 1) 65535 fe a1).2.1 := ⟨g72, by omega, by omega, g60, g61⟩
        simp (config := {contextual := true, maxSteps := 1000000}) (disch := omega) only [r92_0, r92_1, r92_3, r92_4, r92_7, r92_10, r92_11, r92_12, r92_15, r92_16, r92_17, r92_20, r92_23, r92_24, r92_25, r92_27, r92_28, r92_31, r92_33, r92_36, r92_37, r92_40, r92_42, r92_43, r92_46, r92_47_T, r92_47_F, r92_47, r92_50, r92_51, r92_54, r92_55, r92_58, r92_59, r92_60, r92_62, r92_65, r92_66, r92_67, r92_70, r92_71, r92_72, r92_75, r92_78, xAf_none, xAf_some, xu_app, Nat.reduceAdd, Nat.reduceSub, Nat.reduceEqDiff, Nat.reduceMul, reduceIte, and_self, and_true, true_and, and_false, false_and, true_implies, false_implies, implies_true, not_true_eq_false, not_false_eq_true, Int.reduceToNat, Int.reducePow, Int.reduceNeg, Int.reduceLT, Int.reduceLE, Int.reduceAdd, Int.reduceSub, Int.reduceMul, Int.reduceDiv, Int.reduceMod, Int.reduceEq, xA_1, xA_15, xA_255, xA_511, xA_65535, xA_32768]
        exact f_d32 hby (by omega) (by omega) hD (by omega) (by omega) (by omega) (by omega) (by omega) (hk3.1 hf2 f2 a hD e28 (F1.trans F2).R)
      · have hb2' := hb2.2.2.resolve_left (by omega)
        have hk4 := hk3.2 hf2 _ _ rfl rfl
        obtain ⟨a2, ha2⟩ : ∃ a2, (nuF F 231 2 (lt + 1) 65535 fe a1).2.1 = a2 := ⟨_, rfl⟩
        obtain ⟨t, ht⟩ : ∃ t, (nuF F 231 2 (lt + 1) 65535 fe a1).2.2 = t := ⟨_, rfl⟩
        rw [ha2, ht] at hk4 hb2'
        rw [ha2] at g62 hb2
        rw [ht]
        have e82 : f2 8 0 = ln := by rw [F2.1 8 (by decide)]; exact e80
        have e28 : f2 20 8 = be := by rw [F2.2 8 (by decide) (by decide) (by decide)]; exact e8
        have hb3 := enF_bd (id := 163) (en := fe) (pl := a2) hF (by omega)
        simp (config := {contextual := true, maxSteps := 1000000}) (disch := omega) only [r92_0, r92_1, r92_3, r92_4, r92_7, r92_10, r92_11, r92_12, r92_15, r92_16, r92_17, r92_20, r92_23, r92_24, r92_25, r92_27, r92_28, r92_31, r92_32, r92_33, r92_36, r92_37, r92_40, r92_42, r92_43, r92_46, r92_47_T, r92_47_F, r92_47, r92_50, r92_51, r92_54, r92_55, r92_58, r92_59, r92_60, r92_62, r92_65, r92_66, r92_67, r92_70, r92_71, r92_72, r92_75, r92_78, xAf_none, xAf_some, xu_app, Nat.reduceAdd, Nat.reduceSub, Nat.reduceEqDiff, Nat.reduceMul, reduceIte, and_self, and_true, true_and, and_false, false_and, true_implies, false_implies, implies_true, not_true_eq_false, not_false_eq_true, Int.reduceToNat, Int.reducePow, Int.reduceNeg, Int.reduceLT, Int.reduceLE, Int.reduceAdd, Int.reduceSub, Int.reduceMul, Int.reduceDiv, Int.reduceMod, Int.reduceEq, xA_1, xA_15, xA_255, xA_511, xA_65535, xA_32768]
        refine p_enter (F := F) (pl := a2) hF h9 (by omega) (by omega) g62 g72 (by omega) (by omega) (by omega) (by omega) (by omega) (fun hf3 f3 r g73 g63 F3 hr => ?_) (fun hf3 f3 g73 g63 g93 F3 => ?_)
        · have e38 : f3 20 8 = be := by rw [F3.2 8 (by decide) (by decide) (by decide)]; exact e28
          have hD : dd f3 (enF F 163 fe a2).2.1 := ⟨g73, by omega, by omega, by omega, by omega⟩
          have q1 : ¬ f3 20 7 = -1 := by omega
          have q1b : -1 ≤ f3 20 7 := by omega
          have q1c : f3 20 7 ≤ 100000 := by omega
          have hfin := hk4.1 hf3 f3 a hD e38 ((F1.trans F2).trans F3).R
          simp (config := {contextual := true, maxSteps := 1000000}) (disch := omega) only [r92_0, r92_1, r92_3, r92_4, r92_7, r92_10, r92_11, r92_12, r92_15, r92_16, r92_17, r92_20, r92_23, r92_24, r92_25, r92_27, r92_28, r92_31, r92_32, r92_33, r92_36, r92_37, r92_40, r92_42, r92_43, r92_46, r92_47_T, r92_47_F, r92_47, r92_50, r92_51, r92_54, r92_55, r92_58, r92_59, r92_60, r92_62, r92_66, r92_67, r92_70, r92_71, r92_72, r92_75, r92_78, q1, xAf_none, xAf_some, xu_app, Nat.reduceAdd, Nat.reduceSub, Nat.reduceEqDiff, Nat.reduceMul, reduceIte, and_self, and_true, true_and, and_false, false_and, true_implies, false_implies, implies_true, not_true_eq_false, not_false_eq_true, Int.reduceToNat, Int.reducePow, Int.reduceNeg, Int.reduceLT, Int.reduceLE, Int.reduceAdd, Int.reduceSub, Int.reduceMul, Int.reduceDiv, Int.reduceMod, Int.reduceEq, xA_1, xA_15, xA_255, xA_511, xA_65535, xA_32768]
          exact f_d65 hD (by omega) (by omega) (by omega) (by omega) (by omega) hfin
        · have hb3' := hb3.2.2.resolve_left (by omega)
          have hk5 := hk4.2 hf3 _ _ rfl rfl
          obtain ⟨a3, ha3⟩ : ∃ a3, (enF F 163 fe a2).2.1 = a3 := ⟨_, rfl⟩
          obtain ⟨ke, hke⟩ : ∃ ke, (enF F 163 fe a2).2.2.1 = ke := ⟨_, rfl⟩
          rw [ha3, hke] at hk5
          rw [ha3] at g63 hb3 hb3'
          rw [hke] at hb3' ⊢
          have F3' : xFq f f3 := (F1.trans F2).trans F3
          have e5 : f3 5 = f 5 := F3'.1 5 (by decide)
          have g53 : f3 5 3 = k := by rw [e5]; exact h53
          have e8' : f3 8 = f 8 := F3'.1 8 (by decide)
          have e20 : ∀ j, j ≠ 6 → j ≠ 7 → j ≠ 9 → f3 20 j = f 20 j := F3'.2
          simp (config := {contextual := true, maxSteps := 1000000}) (disch := omega) only [r92_0, r92_1, r92_3, r92_4, r92_7, r92_10, r92_11, r92_12, r92_15, r92_16, r92_17, r92_20, r92_23, r92_24, r92_25, r92_27, r92_28, r92_31, r92_32, r92_33, r92_36, r92_37, r92_40, r92_42, r92_43, r92_46, r92_47_T, r92_47_F, r92_47, r92_50, r92_51, r92_54, r92_55, r92_58, r92_59, r92_60, r92_62, r92_65, r92_66, r92_67, r92_70, r92_71, r92_72, r92_75, r92_78, g73, s_addFrame5, g53, xAf_none, xAf_some, xu_app, Nat.reduceAdd, Nat.reduceSub, Nat.reduceEqDiff, Nat.reduceMul, reduceIte, and_self, and_true, true_and, and_false, false_and, true_implies, false_implies, implies_true, not_true_eq_false, not_false_eq_true, Int.reduceToNat, Int.reducePow, Int.reduceNeg, Int.reduceLT, Int.reduceLE, Int.reduceAdd, Int.reduceSub, Int.reduceMul, Int.reduceDiv, Int.reduceMod, Int.reduceEq, xA_1, xA_15, xA_255, xA_511, xA_65535, xA_32768]
          have hA7 : ∀ c j, c ≠ 6 → c ≠ 7 → (xw (fun c j => if c = 7 ∧ k * 108 ≤ j ∧ j < k * 108 + 108 then 0 else a c j) 6 k t) c j = a c j := fun c j c6 c7 => by
            rw [xw_app, if_neg (fun z => c6 z.1), if_neg (fun z => c7 z.1)]
          obtain ⟨a4, ha4⟩ : ∃ a4, (xw (fun c j => if c = 7 ∧ k * 108 ≤ j ∧ j < k * 108 + 108 then 0 else a c j) 6 k t) = a4 := ⟨_, rfl⟩
          rw [ha4]
          have hA : ∀ c, c ≠ 6 → c ≠ 7 → a4 c = a c := fun c c6 c7 => by rw [← ha4]; funext j; exact hA7 c j c6 c7
          have hA6k : a4 6 k = t := by rw [← ha4, xw_app, if_pos ⟨rfl, rfl⟩]
          have hA6 : ∀ j, j ≠ k → a4 6 j = a 6 j := fun j hj => by rw [← ha4, xw_app, if_neg (fun z => hj z.2), if_neg (fun z => absurd z.1 (by decide))]
          have hA7o : ∀ j, j < 108 * k ∨ 108 * k + 108 ≤ j → a4 7 j = a 7 j := fun j hj => by rw [← ha4, xw_app, if_neg (fun z => absurd z.1 (by decide)), if_neg (by omega)]
          have hA7b : (∀ j, -256 ≤ a 7 j ∧ a 7 j ≤ 511) → ∀ j, -256 ≤ a4 7 j ∧ a4 7 j ≤ 511 := fun z j => by
            rw [← ha4, xw_app, if_neg (fun z => absurd z.1 (by decide))]; split
            · omega
            · exact z j
          have FR4 : xFR f a (xu f3 5 3 (k + 1)) a4 := ⟨fun i i1 i2 i3 i4 i5 i6 i7 => by rw [xu_ne _ i1, F3'.1 i i7], fun j _ => by rw [xu_ne _ (by decide), e8'], fun i i1 i2 _ _ _ _ _ => hA i i1 i2, hA7b, fun z => by rw [hA 13 (by decide) (by decide)]; exact z, fun z => by rw [hA 11 (by decide) (by decide)]; exact z⟩
          refine p_tblock (F := F) (ln := ln) (md := md) (sl := sl) (w := w) (h := h) (pn := pn) (pl := a3) (f := xu f3 5 3 (k + 1)) (a := a4) hmd hF hln (by omega) hs w0 w1 h0 h1 hp k0 k3 (by omega) (by rw [hA 9 (by decide) (by decide)]; exact h9) (by show f3 8 0 = ln; rw [e8']; exact h80) g63 g73 (by show f3 20 10 = md; rw [e20 10 (by decide) (by decide) (by decide)]; exact h10) (by show f3 20 11 = sl; rw [e20 11 (by decide) (by decide) (by decide)]; exact h11) (by omega) (by omega) (by show f3 5 0 = w; rw [e5]; exact hw) (by show f3 5 1 = h; rw [e5]; exact hhh) (by show f3 5 2 = pn; rw [e5]; exact hpn) (by rw [hA 13 (by decide) (by decide)]; exact hV) (by rw [hA 11 (by decide) (by decide)]; exact hB) fun f5 a5 out hR g75 x0 x1 o0 o1 hok F5 => ?_
          have FR5 : xFR f a f5 a5 := FR4.trans F5.R
          have g85 : f5 20 8 = be := by rw [F5.2.2.1 8 (by decide) (by decide) (by decide)]; show f3 20 8 = be; rw [e20 8 (by decide) (by decide) (by decide)]; exact h8
          have hk6 := hk5 out hR
          by_cases ho : out = -1
          · obtain ⟨g65, hS⟩ := hok ho
            have hk7 := hk6.2 ho
            have g75' : f5 20 7 = -1 := by rw [g75]; exact ho
            have e805 : f5 8 0 = ln := by rw [FR5.2.1 0 (by omega)]; exact h80
            have h95 : a5 9 = F := by rw [FR5.2.2.1 9 (by decide) (by decide) (by decide) (by decide) (by decide) (by decide) (by decide)]; exact h9
            have hb4 := lvF_bd (en := fe) (pl := ke) hF (by omega)
            simp (config := {contextual := true, maxSteps := 1000000}) (disch := omega) only [r92_0, r92_1, r92_3, r92_4, r92_7, r92_10, r92_11, r92_12, r92_15, r92_16, r92_17, r92_20, r92_23, r92_24, r92_25, r92_27, r92_28, r92_31, r92_32, r92_33, r92_36, r92_37, r92_40, r92_42, r92_43, r92_46, r92_47_T, r92_47_F, r92_47, r92_50, r92_51, r92_54, r92_55, r92_58, r92_59, r92_60, r92_62, r92_65, r92_66, r92_67, r92_70, r92_71, r92_72, r92_75, r92_78, xAf_none, xAf_some, xu_app, Nat.reduceAdd, Nat.reduceSub, Nat.reduceEqDiff, Nat.reduceMul, reduceIte, and_self, and_true, true_and, and_false, false_and, true_implies, false_implies, implies_true, not_true_eq_false, not_false_eq_true, Int.reduceToNat, Int.reducePow, Int.reduceNeg, Int.reduceLT, Int.reduceLE, Int.reduceAdd, Int.reduceSub, Int.reduceMul, Int.reduceDiv, Int.reduceMod, Int.reduceEq, xA_1, xA_15, xA_255, xA_511, xA_65535, xA_32768]
            refine p_leave (F := F) (pl := ke) hF h95 (by omega) (by omega) g65 g75' (by omega) (by omega) (by omega) fun f6 g66 g76 F6 => ?_
            have e86 : f6 8 0 = ln := by rw [F6.1 8 (by decide)]; exact e805
            have g86 : f6 20 8 = be := by rw [F6.2 8 (by decide) (by decide) (by decide)]; exact g85
            by_cases c6 : (lvF F fe ke).2 = 1
            · rw [if_pos c6] at g76
              have q1 : ¬ f6 20 7 = -1 := by omega
              have q2 : -1 ≤ f6 20 7 := by omega
              have q3 : f6 20 7 ≤ 100000 := by omega
              simp (config := {contextual := true, maxSteps := 1000000}) (disch := omega) only [r92_0, r92_1, r92_3, r92_4, r92_7, r92_10, r92_11, r92_12, r92_15, r92_16, r92_17, r92_20, r92_23, r92_24, r92_25, r92_27, r92_28, r92_31, r92_32, r92_33, r92_36, r92_37, r92_40, r92_42, r92_43, r92_46, r92_47_T, r92_47_F, r92_47, r92_50, r92_51, r92_54, r92_55, r92_58, r92_59, r92_60, r92_62, r92_65, r92_66, r92_67, r92_70, r92_71, r92_72, r92_75, r92_78, d_empty, xAf_none, xAf_some, xu_app, Nat.reduceAdd, Nat.reduceSub, Nat.reduceEqDiff, Nat.reduceMul, reduceIte, and_self, and_true, true_and, and_false, false_and, true_implies, false_implies, implies_true, not_true_eq_false, not_false_eq_true, Int.reduceToNat, Int.reducePow, Int.reduceNeg, Int.reduceLT, Int.reduceLE, Int.reduceAdd, Int.reduceSub, Int.reduceMul, Int.reduceDiv, Int.reduceMod, Int.reduceEq, xA_1, xA_15, xA_255, xA_511, xA_65535, xA_32768]
              exact hk7.1 c6 f6 a5 ⟨g76, by omega, by omega, by omega, by omega⟩ g86 (FR5.trans F6.R)
            · rw [if_neg c6] at g76
              have hk8 := hk7.2 (by omega)
              have hb5 := pas_bd (en := be) (pl := (lvF F fe ke).1) hF (by omega)
              simp (config := {contextual := true, maxSteps := 1000000}) (disch := omega) only [r92_0, r92_1, r92_3, r92_4, r92_7, r92_10, r92_11, r92_12, r92_15, r92_16, r92_17, r92_20, r92_23, r92_24, r92_25, r92_27, r92_28, r92_31, r92_32, r92_33, r92_36, r92_37, r92_40, r92_42, r92_43, r92_46, r92_47_T, r92_47_F, r92_47, r92_50, r92_51, r92_54, r92_55, r92_58, r92_59, r92_60, r92_62, r92_65, r92_66, r92_67, r92_70, r92_71, r92_72, r92_75, r92_78, g86, xAf_none, xAf_some, xu_app, Nat.reduceAdd, Nat.reduceSub, Nat.reduceEqDiff, Nat.reduceMul, reduceIte, and_self, and_true, true_and, and_false, false_and, true_implies, false_implies, implies_true, not_true_eq_false, not_false_eq_true, Int.reduceToNat, Int.reducePow, Int.reduceNeg, Int.reduceLT, Int.reduceLE, Int.reduceAdd, Int.reduceSub, Int.reduceMul, Int.reduceDiv, Int.reduceMod, Int.reduceEq, xA_1, xA_15, xA_255, xA_511, xA_65535, xA_32768]
              refine p_empty (F := F) (pl := (lvF F fe ke).1) hF h95 (by omega) (by omega) g66 g76 (by omega) (by omega) (by omega) fun f7 g67 g77 F7 => ?_
              have g87 : f7 20 8 = be := by rw [F7.2 8 (by decide) (by decide) (by decide)]; exact g86
              simp (config := {contextual := true, maxSteps := 1000000}) (disch := omega) only [r92_0, r92_1, r92_3, r92_4, r92_7, r92_10, r92_11, r92_12, r92_15, r92_16, r92_17, r92_20, r92_23, r92_24, r92_25, r92_27, r92_28, r92_31, r92_32, r92_33, r92_36, r92_37, r92_40, r92_42, r92_43, r92_46, r92_47_T, r92_47_F, r92_47, r92_50, r92_51, r92_54, r92_55, r92_58, r92_59, r92_60, r92_62, r92_65, r92_66, r92_67, r92_70, r92_71, r92_72, r92_75, r92_78, xAf_none, xAf_some, xu_app, Nat.reduceAdd, Nat.reduceSub, Nat.reduceEqDiff, Nat.reduceMul, reduceIte, and_self, and_true, true_and, and_false, false_and, true_implies, false_implies, implies_true, not_true_eq_false, not_false_eq_true, Int.reduceToNat, Int.reducePow, Int.reduceNeg, Int.reduceLT, Int.reduceLE, Int.reduceAdd, Int.reduceSub, Int.reduceMul, Int.reduceDiv, Int.reduceMod, Int.reduceEq, xA_1, xA_15, xA_255, xA_511, xA_65535, xA_32768]
              by_cases c7 : (pas F be (lvF F fe ke).1).2 = 1
              · rw [if_pos c7] at g77
                exact hk8.1 c7 f7 a5 ⟨g77, by omega, by omega, by omega, by omega⟩ g87 (FR5.trans (F6.trans F7).R)
              · rw [if_neg c7] at g77
                have c7' : (pas F be (lvF F fe ke).1).2 = 0 := by omega
                have e57 : f7 5 = (xu f3 5 3 (k + 1)) 5 := by rw [F7.1 5 (by decide), F6.1 5 (by decide), F5.1 5 (by decide) (by decide) (by decide) (by decide) (by decide) (by decide)]
                have e207 : ∀ j, j ≠ 6 → j ≠ 7 → j ≠ 9 → f7 20 j = f 20 j := fun j j1 j2 j3 => by
                  rw [F7.2 j j1 j2 j3, F6.2 j j1 j2 j3, F5.2.2.1 j j1 j2 j3]; show f3 20 j = f 20 j; exact e20 j j1 j2 j3
                have a56 : a5 6 = a4 6 := F5.2.2.2.1 6 (by decide) (by decide) (by decide) (by decide) (by decide) (by decide)
                refine hk8.2 c7' f7 a5 g77 g67 g87 (by rw [e207 10 (by decide) (by decide) (by decide)]; exact h10) (by rw [e207 11 (by decide) (by decide) (by decide)]; exact h11) (by rw [e57]; show f3 5 0 = w; rw [e5]; exact hw) (by rw [e57]; show f3 5 1 = h; rw [e5]; exact hhh) (by rw [e57]; show f3 5 2 = pn; rw [e5]; exact hpn) (by rw [e57]; rfl) (by rw [a56]; exact hA6k) (fun j hj => by rw [a56]; exact hA6 j hj) (fun j hj => by rw [F5.2.2.2.2.1 j hj]; exact hA7o j hj) hS (by omega) (by omega) (by omega) (by omega) (pas_stop hF (by omega) (by omega) (by omega) c7') (FR5.trans (F6.trans F7).R)
          · have hD : dd f5 out := ⟨g75, by omega, by omega, x0, by omega⟩
            simp (config := {contextual := true, maxSteps := 1000000}) (disch := omega) only [r92_0, r92_1, r92_3, r92_4, r92_7, r92_10, r92_11, r92_12, r92_15, r92_16, r92_17, r92_20, r92_23, r92_24, r92_25, r92_27, r92_28, r92_31, r92_32, r92_33, r92_36, r92_37, r92_40, r92_42, r92_43, r92_46, r92_47_T, r92_47_F, r92_47, r92_50, r92_51, r92_54, r92_55, r92_58, r92_59, r92_60, r92_62, r92_66, r92_67, r92_70, r92_71, r92_72, r92_75, r92_78, xAf_none, xAf_some, xu_app, Nat.reduceAdd, Nat.reduceSub, Nat.reduceEqDiff, Nat.reduceMul, reduceIte, and_self, and_true, true_and, and_false, false_and, true_implies, false_implies, implies_true, not_true_eq_false, not_false_eq_true, Int.reduceToNat, Int.reducePow, Int.reduceNeg, Int.reduceLT, Int.reduceLE, Int.reduceAdd, Int.reduceSub, Int.reduceMul, Int.reduceDiv, Int.reduceMod, Int.reduceEq, xA_1, xA_15, xA_255, xA_511, xA_65535, xA_32768]
            exact f_d65 hD (by omega) (by omega) (by omega) (by omega) (by omega) (hk6.1 ho f5 a5 hD g85 FR5)
    by_cases hk0 : k = 0
    · have ek : f1 5 3 = 0 := by omega
      have Lt : ∀ (d : Nat) (Q : xm_H × Outcome → Prop), xTC d 35 [.ref 5] (hh f1 a g) Q ↔ Q (hh f1 a g, .returned (some (.int (xI (-1))))) := fun d Q => by
        rw [s_lastTime5 (by omega) (by omega)]; exact ⟨fun z => z.1 ek, fun z => ⟨fun _ => z, fun z' => absurd ek z'⟩⟩
      have hlm := hlt0 hk0
      rw [hlm] at hnum
      simp (config := {contextual := true, maxSteps := 1000000}) (disch := omega) only [r92_0, r92_1, r92_3, r92_4, r92_7, r92_10, r92_11, r92_12, r92_15, r92_16, r92_17, r92_20, r92_23, r92_24, r92_25, r92_27, r92_28, r92_31, r92_32, r92_33, r92_36, r92_37, r92_40, r92_42, r92_43, r92_46, r92_47_T, r92_47_F, r92_47, r92_50, r92_51, r92_54, r92_55, r92_58, r92_59, r92_60, r92_62, r92_65, r92_66, r92_67, r92_70, r92_71, r92_72, r92_75, r92_78, Lt, xAf_none, xAf_some, xu_app, Nat.reduceAdd, Nat.reduceSub, Nat.reduceEqDiff, Nat.reduceMul, reduceIte, and_self, and_true, true_and, and_false, false_and, true_implies, false_implies, implies_true, not_true_eq_false, not_false_eq_true, Int.reduceToNat, Int.reducePow, Int.reduceNeg, Int.reduceLT, Int.reduceLE, Int.reduceAdd, Int.reduceSub, Int.reduceMul, Int.reduceDiv, Int.reduceMod, Int.reduceEq, xA_1, xA_15, xA_255, xA_511, xA_65535, xA_32768]
      exact hnum
    · have ek : ¬ f1 5 3 = 0 := by omega
      have Lt : ∀ (d : Nat) (Q : xm_H × Outcome → Prop), xTC d 35 [.ref 5] (hh f1 a g) Q ↔ Q (hh f1 a g, .returned (some (.int (xI lt)))) := fun d Q => by
        rw [s_lastTime5 (by omega) (by omega), e53, hlt1 hk0]; exact ⟨fun z => z.2 hk0, fun z => ⟨fun z' => absurd z' hk0, fun _ => z⟩⟩
      simp (config := {contextual := true, maxSteps := 1000000}) (disch := omega) only [r92_0, r92_1, r92_3, r92_4, r92_7, r92_10, r92_11, r92_12, r92_15, r92_16, r92_17, r92_20, r92_23, r92_24, r92_25, r92_27, r92_28, r92_31, r92_32, r92_33, r92_36, r92_37, r92_40, r92_42, r92_43, r92_46, r92_47_T, r92_47_F, r92_47, r92_50, r92_51, r92_54, r92_55, r92_58, r92_59, r92_60, r92_62, r92_65, r92_66, r92_67, r92_70, r92_71, r92_72, r92_75, r92_78, Lt, xAf_none, xAf_some, xu_app, Nat.reduceAdd, Nat.reduceSub, Nat.reduceEqDiff, Nat.reduceMul, reduceIte, and_self, and_true, true_and, and_false, false_and, true_implies, false_implies, implies_true, not_true_eq_false, not_false_eq_true, Int.reduceToNat, Int.reducePow, Int.reduceNeg, Int.reduceLT, Int.reduceLE, Int.reduceAdd, Int.reduceSub, Int.reduceMul, Int.reduceDiv, Int.reduceMod, Int.reduceEq, xA_1, xA_15, xA_255, xA_511, xA_65535, xA_32768]
      exact hnum
end S80
