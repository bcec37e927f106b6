/-! THE CLASS READS -/
def finK (F : Int → Int) (ln pl : Int) (no : Int → Prop) (ok : Prop) : Prop := ((lvF F ln pl).2 = 1 → no (lvF F ln pl).1) ∧ ((lvF F ln pl).2 = 0 → ok)
def fmK (F : Int → Int) (ln be w h pn md sl : Int) (no : Int → Prop) (ok : Int → (Int → Int) → (Int → Int) → Prop) : Nat → Int → Int → Int → (Int → Int) → (Int → Int) → Prop
  | 0, pl, _, k, T, B => (pl < be → no pl) ∧ (¬ pl < be → finK F ln pl no (ok k T B))
  | n + 1, pl, lt, k, T, B => (¬ pl < be → finK F ln pl no (ok k T B)) ∧ (pl < be → frR F be w h pn md sl pl lt no (fun pl' t bs => fmK F ln be w h pn md sl no ok n pl' t (k + 1) (vset T k t) (vset B k bs)))
def rdK (F : Int → Int) (ln : Int) (no : Int → Prop) (ok : Int → Int → Int → Int → Int → Int → (Int → Int) → (Int → Int) → Prop) : Prop :=
  ((hdF F ln).1 = 1 → no (hdF F ln).2.1) ∧ ((hdF F ln).1 = 0 → ∀ be p1, be = (hdF F ln).2.2 → p1 = (hdF F ln).2.1 → ((tkF F be p1).1 = 1 → no (tkF F be p1).2.1) ∧ ((tkF F be p1).1 = 0 → ∀ p2 w h pn md sl, tkF F be p1 = (0, p2, w, h, pn, md, sl) → fmK F ln be w h pn md sl no (ok w h pn md sl) 3 p2 (-1) 0 (fun _ => 0) (fun _ => 0)))
theorem frR_mono {F : Int → Int} {be w h pn md sl pl lt : Int} {no no' : Int → Prop} {ok ok' : Int → Int → Int → Prop} (hn : ∀ o, no o → no' o) (ho : ∀ a b c, ok a b c → ok' a b c) (hk : frR F be w h pn md sl pl lt no ok) : frR F be w h pn md sl pl lt no' ok' := by
  obtain ⟨u1, u2⟩ := hk
  refine ⟨fun c1 => hn _ (u1 c1), fun c1 fe a1 hfe ha1 => ?_⟩
  obtain ⟨v1, v2⟩ := u2 c1 fe a1 hfe ha1
  refine ⟨fun c2 => hn _ (v1 c2), fun c2 a2 t ha2 ht => ?_⟩
  obtain ⟨x1, x2⟩ := v2 c2 a2 t ha2 ht
  refine ⟨fun c3 => hn _ (x1 c3), fun c3 ke a3 hke ha3 o hR => ?_⟩
  obtain ⟨z1, z2⟩ := x2 c3 ke a3 hke ha3 o hR
  refine ⟨fun c4 => hn _ (z1 c4), fun c4 => ?_⟩
  obtain ⟨y1, y2⟩ := z2 c4
  refine ⟨fun c5 => hn _ (y1 c5), fun c5 => ?_⟩
  obtain ⟨s1, s2⟩ := y2 c5
  exact ⟨fun c6 => hn _ (s1 c6), fun c6 => ho _ _ _ (s2 c6)⟩
theorem finK_mono {F : Int → Int} {ln pl : Int} {no no' : Int → Prop} {ok ok' : Prop} (hn : ∀ o, no o → no' o) (ho : ok → ok') (hk : finK F ln pl no ok) : finK F ln pl no' ok' := ⟨fun c => hn _ (hk.1 c), fun c => ho (hk.2 c)⟩
theorem fmK_mono {F : Int → Int} {ln be w h pn md sl : Int} {no no' : Int → Prop} {ok ok' : Int → (Int → Int) → (Int → Int) → Prop} (hn : ∀ o, no o → no' o) (ho : ∀ a b c, ok a b c → ok' a b c) (n : Nat) : ∀ pl lt k T B, fmK F ln be w h pn md sl no ok n pl lt k T B → fmK F ln be w h pn md sl no' ok' n pl lt k T B := by
  induction n with
  | zero => intro pl lt k T B hk; exact ⟨fun c => hn _ (hk.1 c), fun c => finK_mono hn (ho _ _ _) (hk.2 c)⟩
  | succ n ih => intro pl lt k T B hk; exact ⟨fun c => finK_mono hn (ho _ _ _) (hk.1 c), fun c => frR_mono hn (fun a b e he => ih _ _ _ _ _ he) (hk.2 c)⟩
theorem tkF_bd {F : Int → Int} {be pl p2 w h pn md sl : Int} (hF : ∀ j, 0 ≤ F j ∧ F j ≤ 255) (p0 : 0 ≤ pl) (p1 : pl ≤ be) (hbe : be ≤ 1200) (ht : tkF F be pl = (0, p2, w, h, pn, md, sl)) : pl ≤ p2 ∧ p2 ≤ be ∧ 1 ≤ w ∧ w ≤ 6 ∧ 1 ≤ h ∧ h ≤ 6 ∧ (pn = 1 ∨ pn = 3) ∧ (md = 0 ∨ md = 1) ∧ (sl = 1 ∨ sl = 2 ∨ sl = 3) ∧ ¬ (p2 < be ∧ F p2 = 236) := by
  have h1 := enF_bd (id := 174) (en := be) (pl := pl) hF p1
  have no : ∀ {x p2 w h pn md sl : Int} {P : Prop}, ((1 : Int), x, (0 : Int), (0 : Int), (0 : Int), (0 : Int), (0 : Int)) = (0, p2, w, h, pn, md, sl) → P := fun h => absurd (show (1 : Int) = 0 from congrArg Prod.fst h) (by decide)
  unfold tkF at ht
  by_cases c1 : (enF F 174 be pl).1 = 1
  · rw [if_pos c1] at ht; exact no ht
  · rw [if_neg c1] at ht
    have h1' := h1.2.2.resolve_left c1
    obtain ⟨te, hte⟩ : ∃ te, (enF F 174 be pl).2.2.1 = te := ⟨_, rfl⟩
    obtain ⟨a1, ha1⟩ : ∃ a1, (enF F 174 be pl).2.1 = a1 := ⟨_, rfl⟩
    rw [hte, ha1] at ht h1'
    rw [ha1] at h1
    have h2 := nuF_bd (id := 176) (n := 1) (lo := 1) (hi := 6) (en := te) (pl := a1) hF (by omega)
    unfold t2F at ht
    by_cases c2 : (nuF F 176 1 1 6 te a1).1 = 1
    · rw [if_pos c2] at ht; exact no ht
    · rw [if_neg c2] at ht
      have h2' := h2.2.2.resolve_left c2
      obtain ⟨a2, ha2⟩ : ∃ a2, (nuF F 176 1 1 6 te a1).2.1 = a2 := ⟨_, rfl⟩
      rw [ha2] at ht h2 h2'
      have h3 := nuF_bd (id := 186) (n := 1) (lo := 1) (hi := 6) (en := te) (pl := a2) hF (by omega)
      unfold t3F at ht
      by_cases c3 : (nuF F 186 1 1 6 te a2).1 = 1
      · rw [if_pos c3] at ht; exact no ht
      · rw [if_neg c3] at ht
        have h3' := h3.2.2.resolve_left c3
        obtain ⟨a3, ha3⟩ : ∃ a3, (nuF F 186 1 1 6 te a2).2.1 = a3 := ⟨_, rfl⟩
        rw [ha3] at ht h3 h3'
        have h4 := nuF_bd (id := 83) (n := 1) (lo := 1) (hi := 3) (en := te) (pl := a3) hF (by omega)
        unfold t4F at ht
        by_cases c4 : (nuF F 83 1 1 3 te a3).1 = 1
        · rw [if_pos c4] at ht; exact no ht
        · rw [if_neg c4] at ht
          have h4' := h4.2.2.resolve_left c4
          obtain ⟨a4, ha4⟩ : ∃ a4, (nuF F 83 1 1 3 te a3).2.1 = a4 := ⟨_, rfl⟩
          rw [ha4] at ht h4 h4'
          by_cases cp : (nuF F 83 1 1 3 te a3).2.2 = 1 ∨ (nuF F 83 1 1 3 te a3).2.2 = 3
          · rw [if_neg (fun z => z cp)] at ht
            have h5 := nuF_bd (id := 84) (n := 1) (lo := 0) (hi := 255) (en := te) (pl := a4) hF (by omega)
            unfold t5F at ht
            by_cases c5 : (nuF F 84 1 0 255 te a4).1 = 1
            · rw [if_pos c5] at ht; exact no ht
            · rw [if_neg c5] at ht
              have h5' := h5.2.2.resolve_left c5
              obtain ⟨a5, ha5⟩ : ∃ a5, (nuF F 84 1 0 255 te a4).2.1 = a5 := ⟨_, rfl⟩
              rw [ha5] at ht h5 h5'
              by_cases cc : ((nuF F 84 1 0 255 te a4).2.2 / 16 = 0 ∨ (nuF F 84 1 0 255 te a4).2.2 / 16 = 1) ∧ 1 ≤ (nuF F 84 1 0 255 te a4).2.2 % 16 ∧ (nuF F 84 1 0 255 te a4).2.2 % 16 ≤ 3 ∧ (nuF F 84 1 0 255 te a4).2.2 % 16 ≤ (nuF F 186 1 1 6 te a2).2.2
              · rw [if_neg (fun z => z cc)] at ht
                have h6 := lvF_bd (en := te) (pl := a5) hF (by omega)
                unfold t6F at ht
                by_cases c6 : (lvF F te a5).2 = 1
                · rw [if_pos c6] at ht; exact no ht
                · rw [if_neg c6] at ht
                  have h7 := pas_bd (en := be) (pl := (lvF F te a5).1) hF (by omega)
                  by_cases c7 : (pas F be (lvF F te a5).1).2 = 1
                  · rw [if_pos c7] at ht; exact no ht
                  · rw [if_neg c7] at ht
                    have hst := pas_stop (en := be) (pl := (lvF F te a5).1) hF (by omega) (by omega) hbe (by omega)
                    simp only [Prod.mk.injEq] at ht
                    obtain ⟨-, e2, e3, e4, e5, e6, e7⟩ := ht
                    rw [e2] at hst h7
                    subst e3 e4 e5 e6 e7
                    refine ⟨by omega, by omega, by omega, by omega, by omega, by omega, cp, cc.1, by omega, hst⟩
              · rw [if_pos cc] at ht; exact no ht
          · rw [if_pos cp] at ht; exact no ht
section S81
variable {d : Nat} {Q : xm_H × Outcome → Prop} {g : xG} {F : Int → Int} {ln be w h pn md sl : Int}
theorem s_more1 {f : Nat → Nat → Int} {a : Nat → Int → Int} {pl : Int} (h7 : f 20 7 = -1) (h6 : f 20 6 = pl) (h8 : f 20 8 = be) (p0 : 0 ≤ pl) (p1 : pl ≤ be) (hbe : be ≤ 1200) (hc : pl < be) : xTC d 91 [.ref 20] (hh f a g) Q ↔ Q (hh f a g, .returned (some (.int (xI 1)))) := by
  rw [e91]
  simp (config := {contextual := true, maxSteps := 1000000}) (disch := omega) only [r91_0, r91_1, r91_4, r91_5_T, r91_5_F, r91_5, r91_8, r91_9, r91_12, r91_13, r91_16_T, r91_16_F, r91_16, r91_19, r91_20, r91_23, r91_24, h7, h6, h8, xAf_none, xAf_some, xu_app, Nat.reduceAdd, Nat.reduceSub, Nat.reduceEqDiff, Nat.reduceMul, reduceIte, and_self, and_true, true_and, and_false, false_and, true_implies, false_implies, implies_true, not_true_eq_false, not_false_eq_true, Int.reduceToNat, Int.reducePow, Int.reduceNeg, Int.reduceLT, Int.reduceLE, Int.reduceAdd, Int.reduceSub, Int.reduceMul, Int.reduceDiv, Int.reduceMod, Int.reduceEq, xA_1, xA_15, xA_255, xA_511, xA_65535, xA_32768]
theorem s_more0 {f : Nat → Nat → Int} {a : Nat → Int → Int} {pl : Int} (h7 : f 20 7 = -1) (h6 : f 20 6 = pl) (h8 : f 20 8 = be) (p0 : 0 ≤ pl) (p1 : pl ≤ be) (hbe : be ≤ 1200) (hc : ¬ pl < be) : xTC d 91 [.ref 20] (hh f a g) Q ↔ Q (hh f a g, .returned (some (.int (xI 0)))) := by
  rw [e91]
  simp (config := {contextual := true, maxSteps := 1000000}) (disch := omega) only [r91_0, r91_1, r91_4, r91_5_T, r91_5_F, r91_5, r91_8, r91_9, r91_12, r91_13, r91_16_T, r91_16_F, r91_16, r91_19, r91_20, r91_23, r91_24, h7, h6, h8, xAf_none, xAf_some, xu_app, Nat.reduceAdd, Nat.reduceSub, Nat.reduceEqDiff, Nat.reduceMul, reduceIte, and_self, and_true, true_and, and_false, false_and, true_implies, false_implies, implies_true, not_true_eq_false, not_false_eq_true, Int.reduceToNat, Int.reducePow, Int.reduceNeg, Int.reduceLT, Int.reduceLE, Int.reduceAdd, Int.reduceSub, Int.reduceMul, Int.reduceDiv, Int.reduceMod, Int.reduceEq, xA_1, xA_15, xA_255, xA_511, xA_65535, xA_32768]
theorem s_mored {f : Nat → Nat → Int} {a : Nat → Int → Int} {o : Int} (hD : dd f o) : xTC d 91 [.ref 20] (hh f a g) Q ↔ Q (hh f a g, .returned (some (.int (xI 0)))) := by
  obtain ⟨h7, o0, o1, h60, h61⟩ := hD
  have q1 : ¬ o = -1 := by omega
  rw [e91]
  simp (config := {contextual := true, maxSteps := 1000000}) (disch := omega) only [r91_0, r91_1, r91_4, r91_5_T, r91_5_F, r91_5, r91_8, r91_9, r91_12, r91_13, r91_16_T, r91_16_F, r91_16, r91_19, r91_20, r91_23, r91_24, h7, q1, xAf_none, xAf_some, xu_app, Nat.reduceAdd, Nat.reduceSub, Nat.reduceEqDiff, Nat.reduceMul, reduceIte, and_self, and_true, true_and, and_false, false_and, true_implies, false_implies, implies_true, not_true_eq_false, not_false_eq_true, Int.reduceToNat, Int.reducePow, Int.reduceNeg, Int.reduceLT, Int.reduceLE, Int.reduceAdd, Int.reduceSub, Int.reduceMul, Int.reduceDiv, Int.reduceMod, Int.reduceEq, xA_1, xA_15, xA_255, xA_511, xA_65535, xA_32768]
theorem s_find {f : Nat → Nat → Int} {a : Nat → Int → Int} {o : Int} (hD : dd f o) (hb0 : 0 ≤ f 20 8) (hb1 : f 20 8 ≤ 1200) (hl0 : 0 ≤ f 8 0) (hl1 : f 8 0 ≤ 1200) (hd : 3 ≤ d) : xTC d 93 [.ref 20] (hh f a g) Q ↔ Q (hh f a g, .returned (some (.int (xI o)))) := by
  obtain ⟨h7, o0, o1, h60, h61⟩ := hD
  have q1 : ¬ f 20 7 = -1 := by omega
  have q2 : -1 ≤ f 20 7 := by omega
  have q3 : f 20 7 ≤ 100000 := by omega
  rw [e93]
  simp (config := {contextual := true, maxSteps := 1000000}) (disch := omega) only [r93_0, r93_1, r93_2, r93_5, r93_8, r93_9, r93_10, r93_13, r93_16, r93_19, r93_20, r93_23, d_leave, h7, xAf_none, xAf_some, xu_app, Nat.reduceAdd, Nat.reduceSub, Nat.reduceEqDiff, Nat.reduceMul, reduceIte, and_self, and_true, true_and, and_false, false_and, true_implies, false_implies, implies_true, not_true_eq_false, not_false_eq_true, Int.reduceToNat, Int.reducePow, Int.reduceNeg, Int.reduceLT, Int.reduceLE, Int.reduceAdd, Int.reduceSub, Int.reduceMul, Int.reduceDiv, Int.reduceMod, Int.reduceEq, xA_1, xA_15, xA_255, xA_511, xA_65535, xA_32768]
/-- dead at the head of the loop -/
theorem l_vrd {f : Nat → Nat → Int} {a : Nat → Int → Int} {o i : Int} (hD : dd f o) (hb0 : 0 ≤ f 20 8) (hb1 : f 20 8 ≤ 1200) (hl0 : 0 ≤ f 8 0) (hl1 : f 8 0 ≤ 1200) (i0 : 0 ≤ i) (i1 : i ≤ 3) (hd : 5 ≤ d) (hk : Q (hh f a g, .returned (some (.int (xI o))))) : xT d 32 16 [.ref 1, .int (xI i)] [] (hh f a g) Q := by
  have ho : ¬ o = -1 := by have := hD.2.1; omega
  have ho1 := hD.2.1
  have ho2 := hD.2.2.1
  have M : ∀ (d : Nat) (Q : xm_H × Outcome → Prop), xTC d 91 [.ref 20] (hh f a g) Q ↔ Q (hh f a g, .returned (some (.int (xI 0)))) := fun d Q => s_mored hD
  have Fi : ∀ (Q : xm_H × Outcome → Prop), xTC (d - 1) 93 [.ref 20] (hh f a g) Q ↔ Q (hh f a g, .returned (some (.int (xI o)))) := fun Q => s_find hD hb0 hb1 hl0 hl1 (by omega)
  rw [r32_16]
  by_cases hi : i < 3
  · simp (config := {contextual := true, maxSteps := 1000000}) (disch := omega) only [r32_0, r32_1, r32_4, r32_7, r32_8, r32_11, r32_14, r32_15, r32_17, r32_18_T, r32_18_F, r32_18, r32_21, r32_22, r32_25, r32_28_T, r32_28_F, r32_28, r32_31, r32_32, r32_35, r32_36, r32_39, r32_42, r32_45, r32_46, r32_49, r32_52, r32_53, r32_54, r32_55_T, r32_55_F, r32_55, r32_58, r32_59, r32_62, r32_63, r32_66, r32_69, r32_70, M, Fi, ho, xAf_none, xAf_some, xu_app, Nat.reduceAdd, Nat.reduceSub, Nat.reduceEqDiff, Nat.reduceMul, reduceIte, and_self, and_true, true_and, and_false, false_and, true_implies, false_implies, implies_true, not_true_eq_false, not_false_eq_true, Int.reduceToNat, Int.reducePow, Int.reduceNeg, Int.reduceLT, Int.reduceLE, Int.reduceAdd, Int.reduceSub, Int.reduceMul, Int.reduceDiv, Int.reduceMod, Int.reduceEq, xA_1, xA_15, xA_255, xA_511, xA_65535, xA_32768]
    exact hk
  · simp (config := {contextual := true, maxSteps := 1000000}) (disch := omega) only [r32_0, r32_1, r32_4, r32_7, r32_8, r32_11, r32_14, r32_15, r32_17, r32_18_T, r32_18_F, r32_18, r32_21, r32_22, r32_25, r32_28_T, r32_28_F, r32_28, r32_31, r32_32, r32_35, r32_36, r32_39, r32_42, r32_45, r32_46, r32_49, r32_52, r32_53, r32_54, r32_55_T, r32_55_F, r32_55, r32_58, r32_59, r32_62, r32_63, r32_66, r32_69, r32_70, M, Fi, ho, xAf_none, xAf_some, xu_app, Nat.reduceAdd, Nat.reduceSub, Nat.reduceEqDiff, Nat.reduceMul, reduceIte, and_self, and_true, true_and, and_false, false_and, true_implies, false_implies, implies_true, not_true_eq_false, not_false_eq_true, Int.reduceToNat, Int.reducePow, Int.reduceNeg, Int.reduceLT, Int.reduceLE, Int.reduceAdd, Int.reduceSub, Int.reduceMul, Int.reduceDiv, Int.reduceMod, Int.reduceEq, xA_1, xA_15, xA_255, xA_511, xA_65535, xA_32768]
    exact hk
/-- the two ends of a class's reading -/
abbrev cNo (g : xG) (Q : xm_H × Outcome → Prop) (fo : Nat → Nat → Int) (ao : Nat → Int → Int) (o : Int) : Prop := 0 ≤ o → o ≤ 1200 → ∀ f' a', xFR fo ao f' a' → Q (hh f' a' g, .returned (some (.int (xI o))))
def cT (F : Int → Int) (w h pn md sl : Int) (N : Int) (T B : Int → Int) (a : Nat → Int → Int) : Prop := ∀ j, 0 ≤ j → j < N → a 6 j = T j ∧ 0 ≤ T j ∧ T j ≤ 65535 ∧ bkS F md sl w h pn (a 7) j sl.toNat 0 (B j)
abbrev cOk (d : Nat) (g : xG) (Q : xm_H × Outcome → Prop) (fo : Nat → Nat → Int) (ao : Nat → Int → Int) (F : Int → Int) (w h pn md sl : Int) (N : Int) (T B : Int → Int) : Prop := 0 ≤ N → N ≤ 3 → ∀ f' a', xFR fo ao f' a' → f' 5 0 = w → f' 5 1 = h → f' 5 2 = pn → f' 5 3 = N → cT F w h pn md sl N T B a' → xT d 32 58 [.ref 1, .int (xI (-1))] [] (hh f' a' g) Q
set_option maxRecDepth 100000 in
theorem l_vfin {f : Nat → Nat → Int} {a : Nat → Int → Int} {pl : Int} (hF : ∀ j, 0 ≤ F j ∧ F j ≤ 255) (hln : ln ≤ 1200) (hbe : be ≤ ln) (h9 : a 9 = F) (h80 : f 8 0 = ln) (h7 : f 20 7 = -1) (h6 : f 20 6 = pl) (h8 : f 20 8 = be) (p0 : 0 ≤ pl) (p1 : pl ≤ be) (hnb : ¬ pl < be) (hd : 7 ≤ d) {l1 : Value} (hno : (lvF F ln pl).2 = 1 → ∀ f', xFq f f' → Q (hh f' a g, .returned (some (.int (xI (lvF F ln pl).1))))) (hok : (lvF F ln pl).2 = 0 → ∀ f', xFq f f' → xT d 32 58 [.ref 1, .int (xI (-1))] [] (hh f' a g) Q) : xT d 32 45 [.ref 1, l1] [] (hh f a g) Q := by
  have hpl : pl = be := by omega
  have hp0 := pas_no (F := F) (en := be) (pl := pl) (fun z => hnb z.1)
  have hlv : lvF F be pl = (pl, 0) := by unfold lvF; rw [hp0]; simp [hpl]
  have hb := lvF_bd (en := ln) (pl := pl) hF (by omega)
  have hfi : xTC (d - 1) 93 [.ref 20] (hh f a g) (xAf d 32 49 [.ref 1, l1] [] Q) := by
    rw [e93]
    simp (config := {contextual := true, maxSteps := 1000000}) (disch := omega) only [r93_0, r93_1, r93_2, r93_5, r93_8, r93_9, r93_10, r93_13, r93_16, r93_19, r93_20, r93_23, h8, xAf_none, xAf_some, xu_app, Nat.reduceAdd, Nat.reduceSub, Nat.reduceEqDiff, Nat.reduceMul, reduceIte, and_self, and_true, true_and, and_false, false_and, true_implies, false_implies, implies_true, not_true_eq_false, not_false_eq_true, Int.reduceToNat, Int.reducePow, Int.reduceNeg, Int.reduceLT, Int.reduceLE, Int.reduceAdd, Int.reduceSub, Int.reduceMul, Int.reduceDiv, Int.reduceMod, Int.reduceEq, xA_1, xA_15, xA_255, xA_511, xA_65535, xA_32768]
    refine p_leave (F := F) (pl := pl) hF h9 (by omega) (by omega) h6 h7 p0 p1 (by omega) fun f1 g6 g7 F1 => ?_
    rw [hlv] at g6 g7
    dsimp only at g6 g7
    rw [if_neg (by decide)] at g7
    have e80 : f1 8 0 = ln := by rw [F1.1 8 (by decide)]; exact h80
    simp (config := {contextual := true, maxSteps := 1000000}) (disch := omega) only [r93_0, r93_1, r93_2, r93_5, r93_8, r93_9, r93_10, r93_13, r93_16, r93_19, r93_20, r93_23, e80, xAf_none, xAf_some, xu_app, Nat.reduceAdd, Nat.reduceSub, Nat.reduceEqDiff, Nat.reduceMul, reduceIte, and_self, and_true, true_and, and_false, false_and, true_implies, false_implies, implies_true, not_true_eq_false, not_false_eq_true, Int.reduceToNat, Int.reducePow, Int.reduceNeg, Int.reduceLT, Int.reduceLE, Int.reduceAdd, Int.reduceSub, Int.reduceMul, Int.reduceDiv, Int.reduceMod, Int.reduceEq, xA_1, xA_15, xA_255, xA_511, xA_65535, xA_32768]
    refine p_leave (F := F) (pl := pl) (en := ln) hF h9 (by omega) (by omega) g6 g7 p0 (by omega) (by omega) fun f2 g62 g72 F2 => ?_
    by_cases c2 : (lvF F ln pl).2 = 1
    · rw [if_pos c2] at g72
      have hn : ¬ (lvF F ln pl).1 = -1 := by omega
      simp (config := {contextual := true, maxSteps := 1000000}) (disch := omega) only [r93_0, r93_1, r93_2, r93_5, r93_8, r93_9, r93_10, r93_13, r93_16, r93_19, r93_20, r93_23, g72, xAf_none, xAf_some, xu_app, Nat.reduceAdd, Nat.reduceSub, Nat.reduceEqDiff, Nat.reduceMul, reduceIte, and_self, and_true, true_and, and_false, false_and, true_implies, false_implies, implies_true, not_true_eq_false, not_false_eq_true, Int.reduceToNat, Int.reducePow, Int.reduceNeg, Int.reduceLT, Int.reduceLE, Int.reduceAdd, Int.reduceSub, Int.reduceMul, Int.reduceDiv, Int.reduceMod, Int.reduceEq, xA_1, xA_15, xA_255, xA_511, xA_65535, xA_32768]
      simp (config := {contextual := true, maxSteps := 1000000}) (disch := omega) only [r32_0, r32_1, r32_4, r32_7, r32_8, r32_11, r32_14, r32_15, r32_17, r32_18_T, r32_18_F, r32_18, r32_21, r32_22, r32_25, r32_28_T, r32_28_F, r32_28, r32_31, r32_32, r32_35, r32_36, r32_39, r32_42, r32_45, r32_46, r32_49, r32_52, r32_53, r32_54, r32_55_T, r32_55_F, r32_55, r32_58, r32_59, r32_62, r32_63, r32_66, r32_69, r32_70, hn, xAf_none, xAf_some, xu_app, Nat.reduceAdd, Nat.reduceSub, Nat.reduceEqDiff, Nat.reduceMul, reduceIte, and_self, and_true, true_and, and_false, false_and, true_implies, false_implies, implies_true, not_true_eq_false, not_false_eq_true, Int.reduceToNat, Int.reducePow, Int.reduceNeg, Int.reduceLT, Int.reduceLE, Int.reduceAdd, Int.reduceSub, Int.reduceMul, Int.reduceDiv, Int.reduceMod, Int.reduceEq, xA_1, xA_15, xA_255, xA_511, xA_65535, xA_32768]
      exact hno c2 f2 (F1.trans F2)
    · rw [if_neg c2] at g72
      simp (config := {contextual := true, maxSteps := 1000000}) (disch := omega) only [r93_0, r93_1, r93_2, r93_5, r93_8, r93_9, r93_10, r93_13, r93_16, r93_19, r93_20, r93_23, g72, xAf_none, xAf_some, xu_app, Nat.reduceAdd, Nat.reduceSub, Nat.reduceEqDiff, Nat.reduceMul, reduceIte, and_self, and_true, true_and, and_false, false_and, true_implies, false_implies, implies_true, not_true_eq_false, not_false_eq_true, Int.reduceToNat, Int.reducePow, Int.reduceNeg, Int.reduceLT, Int.reduceLE, Int.reduceAdd, Int.reduceSub, Int.reduceMul, Int.reduceDiv, Int.reduceMod, Int.reduceEq, xA_1, xA_15, xA_255, xA_511, xA_65535, xA_32768]
      simp (config := {contextual := true, maxSteps := 1000000}) (disch := omega) only [r32_0, r32_1, r32_4, r32_7, r32_8, r32_11, r32_14, r32_15, r32_17, r32_18_T, r32_18_F, r32_18, r32_21, r32_22, r32_25, r32_28_T, r32_28_F, r32_28, r32_31, r32_32, r32_35, r32_36, r32_39, r32_42, r32_45, r32_46, r32_49, r32_52, r32_53, r32_54, r32_55_T, r32_55_F, r32_55, r32_59, r32_62, r32_63, r32_66, r32_69, r32_70, xAf_none, xAf_some, xu_app, Nat.reduceAdd, Nat.reduceSub, Nat.reduceEqDiff, Nat.reduceMul, reduceIte, and_self, and_true, true_and, and_false, false_and, true_implies, false_implies, implies_true, not_true_eq_false, not_false_eq_true, Int.reduceToNat, Int.reducePow, Int.reduceNeg, Int.reduceLT, Int.reduceLE, Int.reduceAdd, Int.reduceSub, Int.reduceMul, Int.reduceDiv, Int.reduceMod, Int.reduceEq, xA_1, xA_15, xA_255, xA_511, xA_65535, xA_32768]
      exact hok (by omega) f2 (F1.trans F2)
  simp (config := {contextual := true, maxSteps := 1000000}) (disch := omega) only [r32_0, r32_1, r32_4, r32_7, r32_8, r32_11, r32_14, r32_15, r32_17, r32_18_T, r32_18_F, r32_18, r32_21, r32_22, r32_25, r32_28_T, r32_28_F, r32_28, r32_31, r32_32, r32_35, r32_36, r32_39, r32_42, r32_45, r32_46, r32_49, r32_52, r32_53, r32_54, r32_55_T, r32_55_F, r32_55, r32_58, r32_59, r32_62, r32_63, r32_66, r32_69, r32_70, xAf_none, xAf_some, xu_app, Nat.reduceAdd, Nat.reduceSub, Nat.reduceEqDiff, Nat.reduceMul, reduceIte, and_self, and_true, true_and, and_false, false_and, true_implies, false_implies, implies_true, not_true_eq_false, not_false_eq_true, Int.reduceToNat, Int.reducePow, Int.reduceNeg, Int.reduceLT, Int.reduceLE, Int.reduceAdd, Int.reduceSub, Int.reduceMul, Int.reduceDiv, Int.reduceMod, Int.reduceEq, xA_1, xA_15, xA_255, xA_511, xA_65535, xA_32768]
  exact hfi
set_option maxRecDepth 100000 in
/-- three frames, and more lies there -/
theorem l_vmore {f : Nat → Nat → Int} {a : Nat → Int → Int} {pl : Int} (hF : ∀ j, 0 ≤ F j ∧ F j ≤ 255) (hl0 : 0 ≤ ln) (hln : ln ≤ 1200) (hbe : be ≤ ln) (h9 : a 9 = F) (h80 : f 8 0 = ln) (h7 : f 20 7 = -1) (h6 : f 20 6 = pl) (h8 : f 20 8 = be) (p0 : 0 ≤ pl) (p1 : pl ≤ be) (hc : pl < be) (hE : ¬ (pl < be ∧ F pl = 236)) (hd : 7 ≤ d) {l1 : Value} (hno : ∀ f', xFq f f' → Q (hh f' a g, .returned (some (.int (xI pl))))) : xT d 32 45 [.ref 1, l1] [] (hh f a g) Q := by
  have hp0 := pas_no (F := F) (en := be) (pl := pl) hE
  have hlv : lvF F be pl = (pl, 1) := by unfold lvF; simp [hp0, show ¬ pl = be by omega]
  have hfi : xTC (d - 1) 93 [.ref 20] (hh f a g) (xAf d 32 49 [.ref 1, l1] [] Q) := by
    rw [e93]
    simp (config := {contextual := true, maxSteps := 1000000}) (disch := omega) only [r93_0, r93_1, r93_2, r93_5, r93_8, r93_9, r93_10, r93_13, r93_16, r93_19, r93_20, r93_23, h8, xAf_none, xAf_some, xu_app, Nat.reduceAdd, Nat.reduceSub, Nat.reduceEqDiff, Nat.reduceMul, reduceIte, and_self, and_true, true_and, and_false, false_and, true_implies, false_implies, implies_true, not_true_eq_false, not_false_eq_true, Int.reduceToNat, Int.reducePow, Int.reduceNeg, Int.reduceLT, Int.reduceLE, Int.reduceAdd, Int.reduceSub, Int.reduceMul, Int.reduceDiv, Int.reduceMod, Int.reduceEq, xA_1, xA_15, xA_255, xA_511, xA_65535, xA_32768]
    refine p_leave (F := F) (pl := pl) hF h9 (by omega) (by omega) h6 h7 p0 p1 (by omega) fun f1 g6 g7 F1 => ?_
    rw [hlv] at g6 g7
    dsimp only at g6 g7
    rw [if_pos rfl] at g7
    have e80 : f1 8 0 = ln := by rw [F1.1 8 (by decide)]; exact h80
    have q1 : ¬ f1 20 7 = -1 := by omega
    have q2 : -1 ≤ f1 20 7 := by omega
    have q3 : f1 20 7 ≤ 100000 := by omega
    have q4 : 0 ≤ f1 20 6 := by omega
    have q5 : f1 20 6 ≤ 1200 := by omega
    have hn : ¬ pl = -1 := by omega
    simp (config := {contextual := true, maxSteps := 1000000}) (disch := omega) only [r93_0, r93_1, r93_2, r93_5, r93_8, r93_9, r93_10, r93_13, r93_16, r93_19, r93_20, r93_23, e80, d_leave, g7, xAf_none, xAf_some, xu_app, Nat.reduceAdd, Nat.reduceSub, Nat.reduceEqDiff, Nat.reduceMul, reduceIte, and_self, and_true, true_and, and_false, false_and, true_implies, false_implies, implies_true, not_true_eq_false, not_false_eq_true, Int.reduceToNat, Int.reducePow, Int.reduceNeg, Int.reduceLT, Int.reduceLE, Int.reduceAdd, Int.reduceSub, Int.reduceMul, Int.reduceDiv, Int.reduceMod, Int.reduceEq, xA_1, xA_15, xA_255, xA_511, xA_65535, xA_32768]
    simp (config := {contextual := true, maxSteps := 1000000}) (disch := omega) only [r32_0, r32_1, r32_4, r32_7, r32_8, r32_11, r32_14, r32_15, r32_17, r32_18_T, r32_18_F, r32_18, r32_21, r32_22, r32_25, r32_28_T, r32_28_F, r32_28, r32_31, r32_32, r32_35, r32_36, r32_39, r32_42, r32_45, r32_46, r32_49, r32_52, r32_53, r32_54, r32_55_T, r32_55_F, r32_55, r32_58, r32_59, r32_62, r32_63, r32_66, r32_69, r32_70, hn, xAf_none, xAf_some, xu_app, Nat.reduceAdd, Nat.reduceSub, Nat.reduceEqDiff, Nat.reduceMul, reduceIte, and_self, and_true, true_and, and_false, false_and, true_implies, false_implies, implies_true, not_true_eq_false, not_false_eq_true, Int.reduceToNat, Int.reducePow, Int.reduceNeg, Int.reduceLT, Int.reduceLE, Int.reduceAdd, Int.reduceSub, Int.reduceMul, Int.reduceDiv, Int.reduceMod, Int.reduceEq, xA_1, xA_15, xA_255, xA_511, xA_65535, xA_32768]
    exact hno f1 F1
  simp (config := {contextual := true, maxSteps := 1000000}) (disch := omega) only [r32_0, r32_1, r32_4, r32_7, r32_8, r32_11, r32_14, r32_15, r32_17, r32_18_T, r32_18_F, r32_18, r32_21, r32_22, r32_25, r32_28_T, r32_28_F, r32_28, r32_31, r32_32, r32_35, r32_36, r32_39, r32_42, r32_45, r32_46, r32_49, r32_52, r32_53, r32_54, r32_55_T, r32_55_F, r32_55, r32_58, r32_59, r32_62, r32_63, r32_66, r32_69, r32_70, xAf_none, xAf_some, xu_app, Nat.reduceAdd, Nat.reduceSub, Nat.reduceEqDiff, Nat.reduceMul, reduceIte, and_self, and_true, true_and, and_false, false_and, true_implies, false_implies, implies_true, not_true_eq_false, not_false_eq_true, Int.reduceToNat, Int.reducePow, Int.reduceNeg, Int.reduceLT, Int.reduceLE, Int.reduceAdd, Int.reduceSub, Int.reduceMul, Int.reduceDiv, Int.reduceMod, Int.reduceEq, xA_1, xA_15, xA_255, xA_511, xA_65535, xA_32768]
  exact hfi
theorem r32_hd0 {f : Nat → Nat → Int} {a : Nat → Int → Int} {i : Int} (i0 : 0 ≤ i) (i1 : i < 3) (hd : 2 ≤ d) (M : ∀ (d : Nat) (Q : xm_H × Outcome → Prop), xTC d 91 [.ref 20] (hh f a g) Q ↔ Q (hh f a g, .returned (some (.int (xI 0))))) (hk : xT d 32 45 [.ref 1, .int (xI i)] [] (hh f a g) Q) : xT d 32 16 [.ref 1, .int (xI i)] [] (hh f a g) Q := by
  rw [r32_16]
  simp (config := {contextual := true, maxSteps := 1000000}) (disch := omega) only [r32_0, r32_1, r32_4, r32_7, r32_8, r32_11, r32_14, r32_15, r32_17, r32_18_T, r32_18_F, r32_18, r32_21, r32_22, r32_25, r32_28_T, r32_28_F, r32_28, r32_31, r32_32, r32_35, r32_36, r32_39, r32_42, r32_46, r32_49, r32_52, r32_53, r32_54, r32_55_T, r32_55_F, r32_55, r32_58, r32_59, r32_62, r32_63, r32_66, r32_69, r32_70, M, xAf_none, xAf_some, xu_app, Nat.reduceAdd, Nat.reduceSub, Nat.reduceEqDiff, Nat.reduceMul, reduceIte, and_self, and_true, true_and, and_false, false_and, true_implies, false_implies, implies_true, not_true_eq_false, not_false_eq_true, Int.reduceToNat, Int.reducePow, Int.reduceNeg, Int.reduceLT, Int.reduceLE, Int.reduceAdd, Int.reduceSub, Int.reduceMul, Int.reduceDiv, Int.reduceMod, Int.reduceEq, xA_1, xA_15, xA_255, xA_511, xA_65535, xA_32768]
  exact hk
theorem r32_hd1 {f : Nat → Nat → Int} {a : Nat → Int → Int} {i : Int} (i0 : 0 ≤ i) (i1 : i < 3) (hd : 2 ≤ d) (M : ∀ (d : Nat) (Q : xm_H × Outcome → Prop), xTC d 91 [.ref 20] (hh f a g) Q ↔ Q (hh f a g, .returned (some (.int (xI 1))))) (hk : xTC (d - 1) 92 [.ref 20, .int (xI i)] (hh f a g) (xAf d 32 36 [.ref 1, .int (xI i)] [] Q)) : xT d 32 16 [.ref 1, .int (xI i)] [] (hh f a g) Q := by
  rw [r32_16]
  simp (config := {contextual := true, maxSteps := 1000000}) (disch := omega) only [r32_0, r32_1, r32_4, r32_7, r32_8, r32_11, r32_14, r32_15, r32_17, r32_18_T, r32_18_F, r32_18, r32_21, r32_22, r32_25, r32_28_T, r32_28_F, r32_28, r32_31, r32_32, r32_35, r32_36, r32_39, r32_42, r32_46, r32_49, r32_52, r32_53, r32_54, r32_55_T, r32_55_F, r32_55, r32_58, r32_59, r32_62, r32_63, r32_66, r32_69, r32_70, M, xAf_none, xAf_some, xu_app, Nat.reduceAdd, Nat.reduceSub, Nat.reduceEqDiff, Nat.reduceMul, reduceIte, and_self, and_true, true_and, and_false, false_and, true_implies, false_implies, implies_true, not_true_eq_false, not_false_eq_true, Int.reduceToNat, Int.reducePow, Int.reduceNeg, Int.reduceLT, Int.reduceLE, Int.reduceAdd, Int.reduceSub, Int.reduceMul, Int.reduceDiv, Int.reduceMod, Int.reduceEq, xA_1, xA_15, xA_255, xA_511, xA_65535, xA_32768]
  exact hk
theorem r32_hd3 {f : Nat → Nat → Int} {a : Nat → Int → Int} (hk : xT d 32 45 [.ref 1, .int (xI 3)] [] (hh f a g) Q) : xT d 32 16 [.ref 1, .int (xI 3)] [] (hh f a g) Q := by
  rw [r32_16]
  simp (config := {contextual := true, maxSteps := 1000000}) (disch := omega) only [r32_0, r32_1, r32_4, r32_7, r32_8, r32_11, r32_14, r32_15, r32_17, r32_18_T, r32_18_F, r32_18, r32_21, r32_22, r32_25, r32_28_T, r32_28_F, r32_28, r32_31, r32_32, r32_35, r32_36, r32_39, r32_42, r32_46, r32_49, r32_52, r32_53, r32_54, r32_55_T, r32_55_F, r32_55, r32_58, r32_59, r32_62, r32_63, r32_66, r32_69, r32_70, xAf_none, xAf_some, xu_app, Nat.reduceAdd, Nat.reduceSub, Nat.reduceEqDiff, Nat.reduceMul, reduceIte, and_self, and_true, true_and, and_false, false_and, true_implies, false_implies, implies_true, not_true_eq_false, not_false_eq_true, Int.reduceToNat, Int.reducePow, Int.reduceNeg, Int.reduceLT, Int.reduceLE, Int.reduceAdd, Int.reduceSub, Int.reduceMul, Int.reduceDiv, Int.reduceMod, Int.reduceEq, xA_1, xA_15, xA_255, xA_511, xA_65535, xA_32768]
  exact hk
theorem r32_bk {f : Nat → Nat → Int} {a : Nat → Int → Int} {i : Int} (hk : xT d 32 16 [.ref 1, .int (xI (i + 1))] [] (hh f a g) Q) : xAf d 32 36 [.ref 1, .int (xI i)] [] Q (hh f a g, .returned none) := by
  rw [xAf_none]
  simp (config := {contextual := true, maxSteps := 1000000}) (disch := omega) only [r32_0, r32_1, r32_4, r32_7, r32_8, r32_11, r32_14, r32_15, r32_17, r32_18_T, r32_18_F, r32_18, r32_21, r32_22, r32_25, r32_28_T, r32_28_F, r32_28, r32_31, r32_32, r32_35, r32_36, r32_39, r32_42, r32_45, r32_46, r32_49, r32_52, r32_53, r32_54, r32_55_T, r32_55_F, r32_55, r32_58, r32_59, r32_62, r32_63, r32_66, r32_69, r32_70, xAf_none, xAf_some, xu_app, Nat.reduceAdd, Nat.reduceSub, Nat.reduceEqDiff, Nat.reduceMul, reduceIte, and_self, and_true, true_and, and_false, false_and, true_implies, false_implies, implies_true, not_true_eq_false, not_false_eq_true, Int.reduceToNat, Int.reducePow, Int.reduceNeg, Int.reduceLT, Int.reduceLE, Int.reduceAdd, Int.reduceSub, Int.reduceMul, Int.reduceDiv, Int.reduceMod, Int.reduceEq, xA_1, xA_15, xA_255, xA_511, xA_65535, xA_32768]
  exact hk
set_option maxRecDepth 100000 in
set_option maxHeartbeats 4000000 in
theorem l_vr (hF : ∀ j, 0 ≤ F j ∧ F j ≤ 255) (hl0 : 0 ≤ ln) (hln : ln ≤ 1200) (hbe : be ≤ ln) (hmd : md = 0 ∨ md = 1) (hs : sl = 1 ∨ sl = 2 ∨ sl = 3) (w0 : 1 ≤ w) (w1 : w ≤ 6) (h0 : 1 ≤ h) (h1 : h ≤ 6) (hp : pn = 1 ∨ pn = 3) (hd : 9 ≤ d) {fo : Nat → Nat → Int} {ao : Nat → Int → Int} (n : Nat) : ∀ (f : Nat → Nat → Int) (a : Nat → Int → Int) (pl lt k : Int) (T B : Int → Int), k + n = 3 → 0 ≤ k → xFR fo ao f a → a 9 = F → f 8 0 = ln → f 20 7 = -1 → f 20 6 = pl → f 20 8 = be → f 20 10 = md → f 20 11 = sl → 0 ≤ pl → pl ≤ be → f 5 0 = w → f 5 1 = h → f 5 2 = pn → f 5 3 = k → -1 ≤ lt → lt ≤ 65535 → (k = 0 → lt = -1) → (k ≠ 0 → a 6 (k - 1) = lt) → (∀ j, -1000 ≤ a 13 j ∧ a 13 j ≤ 1000) → (∀ j, 0 ≤ a 11 j ∧ a 11 j ≤ 255) → ¬ (pl < be ∧ F pl = 236) → cT F w h pn md sl k T B a →
    fmK F ln be w h pn md sl (cNo g Q fo ao) (cOk d g Q fo ao F w h pn md sl) n pl lt k T B →
    xT d 32 16 [.ref 1, .int (xI k)] [] (hh f a g) Q := by
  have hfin : ∀ (f : Nat → Nat → Int) (a : Nat → Int → Int) (k : Int) (T B : Int → Int) (pl : Int) (l1 : Value), 0 ≤ k → k ≤ 3 → xFR fo ao f a → a 9 = F → f 8 0 = ln → f 20 7 = -1 → f 20 6 = pl → f 20 8 = be → 0 ≤ pl → pl ≤ be → ¬ pl < be → f 5 0 = w → f 5 1 = h → f 5 2 = pn → f 5 3 = k → cT F w h pn md sl k T B a → finK F ln pl (cNo g Q fo ao) (cOk d g Q fo ao F w h pn md sl k T B) → xT d 32 45 [.ref 1, l1] [] (hh f a g) Q := fun f a k T B pl l1 k0 k3 FR h9 h80 h7 h6 h8 p0 p1 hnb hw hhh hpn h53 hT hk => by
    have hb := lvF_bd (en := ln) (pl := pl) hF (by omega)
    refine l_vfin (F := F) (ln := ln) (be := be) (pl := pl) hF hln hbe h9 h80 h7 h6 h8 p0 p1 hnb (by omega) (fun c f' F' => hk.1 c (by omega) (by omega) f' a (FR.trans F'.R)) (fun c f' F' => ?_)
    have e5 : f' 5 = f 5 := F'.1 5 (by decide)
    exact hk.2 c k0 k3 f' a (FR.trans F'.R) (by rw [e5]; exact hw) (by rw [e5]; exact hhh) (by rw [e5]; exact hpn) (by rw [e5]; exact h53) hT
  induction n with
  | zero =>
    intro f a pl lt k T B hi k0 FR h9 h80 h7 h6 h8 h10 h11 p0 p1 hw hhh hpn h53 lt0 lt1 hlt0 hlt1 hV hB hE hT hk
    have hk3 : k = 3 := by omega
    by_cases hc : pl < be
    · rw [hk3]
      exact r32_hd3 (l_vmore (F := F) (ln := ln) (be := be) (pl := pl) hF hl0 hln hbe h9 h80 h7 h6 h8 p0 p1 hc hE (by omega) (fun f' F' => hk.1 hc p0 (by omega) f' a (FR.trans F'.R)))
    · have := hfin f a k T B pl (.int (xI 3)) k0 (by omega) FR h9 h80 h7 h6 h8 p0 p1 hc hw hhh hpn h53 hT (hk.2 hc)
      rw [hk3]
      exact r32_hd3 this
  | succ n ih =>
    intro f a pl lt k T B hi k0 FR h9 h80 h7 h6 h8 h10 h11 p0 p1 hw hhh hpn h53 lt0 lt1 hlt0 hlt1 hV hB hE hT hk
    by_cases hc : pl < be
    · refine r32_hd1 k0 (by omega) (by omega) (fun d Q => s_more1 h7 h6 h8 p0 p1 (by omega) hc) ?_
      refine p_takeFrame (F := F) (ln := ln) (be := be) (pl := pl) (w := w) (h := h) (pn := pn) (md := md) (sl := sl) (lt := lt) hF h9 h80 hln h7 h6 h8 h10 h11 p0 p1 hbe hmd hs w0 w1 h0 h1 hp hw hhh hpn h53 k0 (by omega) lt0 lt1 hlt0 hlt1 hV hB (by omega) ?_
      refine frR_mono (fun o hq f' a' hD e8 F' => ?_) (fun pl' t bs hq f' a' g7 g6 g8 g10 g11 gw gh gpn g53 ga6 ga6o ga7 hS pl0 pl1 t0 t1 hE' F' => ?_) (hk.2 hc)
      · have e80 : f' 8 0 = ln := by rw [F'.2.1 0 (by omega)]; exact h80
        exact r32_bk (l_vrd hD (by omega) (by omega) (by omega) (by omega) (by omega) (by omega) (by omega) (hq hD.2.1 hD.2.2.1 f' a' (FR.trans F')))
      · refine r32_bk (ih f' a' pl' t (k + 1) (vset T k t) (vset B k bs) (by omega) (by omega) (FR.trans F') (by rw [F'.2.2.1 9 (by decide) (by decide) (by decide) (by decide) (by decide) (by decide) (by decide)]; exact h9) (by rw [F'.2.1 0 (by omega)]; exact h80) g7 g6 g8 g10 g11 pl0 pl1 gw gh gpn g53 (by omega) t1 (fun z => by omega) (fun _ => by rw [show k + 1 - 1 = k by omega]; exact ga6) (F'.2.2.2.2.1 hV) (F'.2.2.2.2.2 hB) hE' (fun j j0 j1 => ?_) hq)
        by_cases hj : j = k
        · subst hj
          unfold vset; rw [if_pos rfl, if_pos rfl]
          exact ⟨ga6, t0, t1, hS⟩
        · have hjk : j + 1 ≤ k := by omega
          obtain ⟨m1, m2, m3, m4⟩ := hT j j0 (by omega)
          unfold vset; rw [if_neg hj, if_neg hj]
          exact ⟨by rw [ga6o j hj]; exact m1, m2, m3, bkS_congr hs (by omega) h1 w1 (fun j' q0 q1 => (ga7 j' (.inl (by omega))).symm) (by omega) sl.toNat 0 (B j) (by omega) (by omega) m4⟩
    · exact r32_hd0 k0 (by omega) (by omega) (fun d Q => s_more0 h7 h6 h8 p0 p1 (by omega) hc) (hfin f a k T B pl _ k0 (by omega) FR h9 h80 h7 h6 h8 p0 p1 hc hw hhh hpn h53 hT (hk.1 hc))
/-- what a film that was read changes -/
def xFS (f : Nat → Nat → Int) (a : Nat → Int → Int) (f' : Nat → Nat → Int) (a' : Nat → Int → Int) : Prop :=
  (∀ i, i ≠ 2 → i ≠ 5 → i ≠ 8 → i ≠ 10 → i ≠ 12 → i ≠ 14 → i ≠ 17 → i ≠ 20 → f' i = f i) ∧ (∀ k, k ≤ 2 → f' 8 k = f 8 k) ∧ (∀ i, i ≠ 3 → i ≠ 4 → i ≠ 6 → i ≠ 7 → i ≠ 11 → i ≠ 13 → i ≠ 15 → i ≠ 16 → i ≠ 18 → a' i = a i) ∧ ((∀ j, -256 ≤ a 7 j ∧ a 7 j ≤ 511) → ∀ j, -256 ≤ a' 7 j ∧ a' 7 j ≤ 511) ∧ ((∀ j, -1000 ≤ a 13 j ∧ a 13 j ≤ 1000) → ∀ j, -1000 ≤ a' 13 j ∧ a' 13 j ≤ 1000) ∧ ((∀ j, 0 ≤ a 11 j ∧ a 11 j ≤ 255) → ∀ j, 0 ≤ a' 11 j ∧ a' 11 j ≤ 255) ∧ ((∀ j, -256 ≤ a 7 j ∧ a 7 j ≤ 511) → (∀ j, -256 ≤ a 4 j ∧ a 4 j ≤ 511) → ∀ j, -256 ≤ a' 4 j ∧ a' 4 j ≤ 511)
end S81
