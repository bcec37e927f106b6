/-! THE CLASS: beginning to read, samples out of values, are the bytes the same -/
/-- these places of a frame's samples (array o) now have what the values give; nothing else has changed -/
def uS (o : Nat) (a a' : Nat → Int → Int) (V : Int → Int) (fr pn : Int) (R : Int → Int → Prop) : Prop :=
  (∀ c, c ≠ o → a' c = a c) ∧ ((∀ j, -256 ≤ a o j ∧ a o j ≤ 511) → ∀ j, -256 ≤ a' o j ∧ a' o j ≤ 511) ∧ (∀ p y x, 0 ≤ p → p < pn → 0 ≤ y → y < 6 → 0 ≤ x → x < 6 → R y x → a' o (108 * fr + stPl p y x) = unS V pn p y x) ∧ (∀ j, (∀ p y x, 0 ≤ p → p < pn → 0 ≤ y → y < 6 → 0 ≤ x → x < 6 → R y x → j ≠ 108 * fr + stPl p y x) → a' o j = a o j)
theorem uS.none {o : Nat} {a : Nat → Int → Int} {V : Int → Int} {fr pn : Int} {R : Int → Int → Prop} (h : ∀ y x, 0 ≤ y → y < 6 → 0 ≤ x → x < 6 → ¬ R y x) : uS o a a V fr pn R := ⟨fun _ _ => rfl, fun hb => hb, fun p y x _ _ y0 y1 x0 x1 hr => absurd hr (h y x y0 y1 x0 x1), fun _ _ => rfl⟩
theorem uS.trans {o : Nat} {a a1 a2 : Nat → Int → Int} {V : Int → Int} {fr pn : Int} {R1 R2 R : Int → Int → Prop} (h1 : uS o a a1 V fr pn R1) (h2 : uS o a1 a2 V fr pn R2) (hR : ∀ y x, 0 ≤ y → y < 6 → 0 ≤ x → x < 6 → (R y x ↔ R1 y x ∨ R2 y x)) : uS o a a2 V fr pn R := by
  obtain ⟨p1, p2, p3, p4⟩ := h1
  obtain ⟨q1, q2, q3, q4⟩ := h2
  refine ⟨fun c hc => (q1 c hc).trans (p1 c hc), fun hb => q2 (p2 hb), fun p y x k0 k1 y0 y1 x0 x1 hr => ?_, fun j hj => ?_⟩
  · by_cases h : R2 y x
    · exact q3 p y x k0 k1 y0 y1 x0 x1 h
    · have h1' : R1 y x := ((hR y x y0 y1 x0 x1).mp hr).resolve_right h
      rw [q4 _ (fun p' y' x' k0' k1' y0' y1' x0' x1' hr' he => ?_)]
      · exact p3 p y x k0 k1 y0 y1 x0 x1 h1'
      · have := stPl_inj (p := p) (p' := p') y0 y1 x0 x1 y0' y1' x0' x1' (by omega)
        rw [← this.2.1, ← this.2.2] at hr'; exact h hr'
  · rw [q4 j (fun p y x k0 k1 y0 y1 x0 x1 hr => hj p y x k0 k1 y0 y1 x0 x1 ((hR y x y0 y1 x0 x1).mpr (.inr hr)))]
    exact p4 j (fun p y x k0 k1 y0 y1 x0 x1 hr => hj p y x k0 k1 y0 y1 x0 x1 ((hR y x y0 y1 x0 x1).mpr (.inl hr)))
theorem upd_1 {o : Nat} {a : Nat → Int → Int} {V : Int → Int} {fr y x j v : Int} (y0 : 0 ≤ y) (y1 : y < 6) (x0 : 0 ≤ x) (x1 : x < 6) (hj : j = 108 * fr + stPl 0 y x) (hv : v = V (stPl 0 y x)) (hb : 0 ≤ v ∧ v ≤ 255) : uS o a (xw a o j v) V fr 1 (fun y' x' => y' = y ∧ x' = x) := by
  refine ⟨fun c hc => xw_ne _ hc, fun h j => ?_, fun p y' x' k0 k1 _ _ _ _ ⟨h1, h2⟩ => ?_, fun j' hj' => ?_⟩
  · rw [xw_app]; split
    · omega
    · exact h j
  · have : p = 0 := by omega
    subst this; subst h1; subst h2
    rw [xw_app, if_pos ⟨rfl, by omega⟩]; unfold unS; rw [if_pos rfl]; exact hv
  · have := hj' 0 y x (by omega) (by omega) y0 y1 x0 x1 ⟨rfl, rfl⟩
    rw [xw_app, if_neg (by omega)]
theorem upd_3 {o : Nat} {a : Nat → Int → Int} {V : Int → Int} {fr y x j0 j1 j2 v0 v1 v2 : Int} (y0 : 0 ≤ y) (y1 : y < 6) (x0 : 0 ≤ x) (x1 : x < 6) (hj0 : j0 = 108 * fr + stPl 0 y x) (hj1 : j1 = 108 * fr + stPl 1 y x) (hj2 : j2 = 108 * fr + stPl 2 y x) (hv0 : v0 = unS V 3 0 y x) (hv1 : v1 = unS V 3 1 y x) (hv2 : v2 = unS V 3 2 y x) (hb0 : -256 ≤ v0 ∧ v0 ≤ 511) (hb1 : -256 ≤ v1 ∧ v1 ≤ 511) (hb2 : -256 ≤ v2 ∧ v2 ≤ 511) : uS o a (xw (xw (xw a o j0 v0) o j1 v1) o j2 v2) V fr 3 (fun y' x' => y' = y ∧ x' = x) := by
  have hd1 : stPl 1 y x = stPl 0 y x + 36 := by unfold stPl; omega
  have hd2 : stPl 2 y x = stPl 0 y x + 72 := by unfold stPl; omega
  refine ⟨fun c hc => by rw [xw_ne _ hc, xw_ne _ hc, xw_ne _ hc], fun h j => ?_, fun p y' x' k0 k1 _ _ _ _ ⟨h1, h2⟩ => ?_, fun j' hj' => ?_⟩
  · rw [xw_app]; split
    · omega
    · rw [xw_app]; split
      · omega
      · rw [xw_app]; split
        · omega
        · exact h j
  · subst h1; subst h2
    rcases (by omega : p = 0 ∨ p = 1 ∨ p = 2) with rfl | rfl | rfl
    · rw [xw_app, if_neg (by omega), xw_app, if_neg (by omega), xw_app, if_pos ⟨rfl, by omega⟩]; exact hv0
    · rw [xw_app, if_neg (by omega), xw_app, if_pos ⟨rfl, by omega⟩]; exact hv1
    · rw [xw_app, if_pos ⟨rfl, by omega⟩]; exact hv2
  · have q0 := hj' 0 y x (by omega) (by omega) y0 y1 x0 x1 ⟨rfl, rfl⟩
    have q1 := hj' 1 y x (by omega) (by omega) y0 y1 x0 x1 ⟨rfl, rfl⟩
    have q2 := hj' 2 y x (by omega) (by omega) y0 y1 x0 x1 ⟨rfl, rfl⟩
    rw [xw_app, if_neg (by omega), xw_app, if_neg (by omega), xw_app, if_neg (by omega)]
theorem unS_bd {V : Int → Int} {y x : Int} (h0 : 0 ≤ V (stPl 0 y x) ∧ V (stPl 0 y x) ≤ 255) (h1 : -256 ≤ V (stPl 1 y x) ∧ V (stPl 1 y x) ≤ 255) (h2 : -256 ≤ V (stPl 2 y x) ∧ V (stPl 2 y x) ≤ 255) : (-256 ≤ unG V y x ∧ unG V y x ≤ 511) ∧ (-256 ≤ V (stPl 2 y x) + unG V y x ∧ V (stPl 2 y x) + unG V y x ≤ 511) ∧ (-256 ≤ V (stPl 1 y x) + unG V y x ∧ V (stPl 1 y x) + unG V y x ≤ 511) := by
  unfold unG; omega
section S71
variable {d : Nat} {Q : xm_H × Outcome → Prop} {g : xG} {f : Nat → Nat → Int} {a : Nat → Int → Int} {F V : Int → Int} {fr en ln w y0 y1 pn : Int}
set_option maxRecDepth 100000 in
theorem p_up {y x pl : Int} (f0 : 0 ≤ fr) (f1 : fr < 3) (hpn : f 5 2 = pn) (hp : pn = 1 ∨ pn = 3) (hy0 : 0 ≤ y) (hy1 : y < 6) (x0 : 0 ≤ x) (x1 : x < 6) (hpl : pl = stPl 0 y x) (hV : a 13 = V) (hq : ∀ q, 0 ≤ q → q < pn → okc q (V (stPl q y x))) (hd : 1 ≤ d) (hk : ∀ a' b, uS 7 a a' V fr pn (fun y' x' => y' = y ∧ x' = x) → (b = 0 ∨ b = 1) → (b = 1 ↔ ok1 V pn y x) → Q (hh f a' g, .returned (some (.int (xI b))))) : xTC d 73 [.ref 12, .ref 5, .int (xI (fr * 108)), .int (xI pl)] (hh f a g) Q := by
  have hplb : 0 ≤ pl ∧ pl < 36 := by rw [hpl]; unfold stPl; omega
  have eV : ∀ j, a 13 j = V j := fun j => by rw [hV]
  have h0 := (hq 0 (by omega) (by omega)).1 rfl
  rw [e73]
  rcases hp with rfl | rfl
  · simp (config := {contextual := true, maxSteps := 1000000}) (disch := omega) only [r73_0, r73_1, r73_1_1, r73_4, r73_5_T, r73_5_F, r73_5, r73_8, r73_9, r73_9_1, r73_12, r73_13, r73_14, r73_15, r73_16, r73_19, r73_20, r73_21, r73_21_1, r73_22, r73_23, r73_24, r73_25, r73_28, r73_30, r73_31, r73_32, r73_33, r73_35, r73_36, r73_39, r73_41, r73_42, r73_43, r73_44, r73_46, r73_47, r73_50, r73_51, r73_52, r73_54, r73_56, r73_57, r73_58, r73_59, r73_60, r73_62, r73_63, r73_63_1, r73_66, r73_67, r73_68, r73_69, r73_71, r73_73, r73_74, r73_74_1, r73_75, r73_76, r73_76_1, r73_79, r73_80, r73_82, r73_83, r73_84, r73_85, r73_87, r73_87_1, r73_88, r73_89, r73_89_1, r73_92, r73_93, r73_95, r73_96, r73_97, r73_98, r73_100, r73_102, r73_103, r73_103_1, r73_104, r73_106, r73_109_T, r73_109_F, r73_109, r73_112, r73_114, r73_116, r73_117, r73_120_T, r73_120_F, r73_120, r73_123, r73_125, r73_127, r73_128, r73_131_T, r73_131_F, r73_131, r73_134, r73_135, r73_138, r73_139, hpn, eV, xAf_none, xAf_some, xu_app, Nat.reduceAdd, Nat.reduceSub, Nat.reduceEqDiff, Nat.reduceMul, reduceIte, and_self, and_true, true_and, and_false, false_and, true_implies, false_implies, implies_true, not_true_eq_false, not_false_eq_true, Int.reduceToNat, Int.reducePow, Int.reduceNeg, Int.reduceLT, Int.reduceLE, Int.reduceAdd, Int.reduceSub, Int.reduceMul, Int.reduceDiv, Int.reduceMod, Int.reduceEq, xA_1, xA_15, xA_255, xA_511, xA_65535, xA_32768]
    refine hk _ 1 (upd_1 hy0 hy1 x0 x1 (by omega) (by rw [hpl]) (by rw [hpl]; exact h0)) (.inr rfl) ⟨fun _ => .inl rfl, fun _ => rfl⟩
  · have h1 := (hq 1 (by omega) (by omega)).2
    have h2 := (hq 2 (by omega) (by omega)).2
    have hub := unS_bd h0 h1 h2
    have p1 : stPl 1 y x = 36 + pl := by rw [hpl]; unfold stPl; omega
    have p2 : stPl 2 y x = 72 + pl := by rw [hpl]; unfold stPl; omega
    obtain ⟨G, hG⟩ : ∃ G, unG V y x = G := ⟨_, rfl⟩
    have hG' : V pl - (V (36 + pl) + V (72 + pl)) / 4 = G := by rw [← hG]; unfold unG; rw [p1, p2, hpl]
    rw [hG, p1, p2] at hub
    rw [← hpl] at h0
    rw [p1] at h1
    rw [p2] at h2
    have hu := upd_3 (o := 7) (a := a) (V := V) (fr := fr) (j0 := fr * 108 + pl) (j1 := fr * 108 + 36 + pl) (j2 := fr * 108 + 72 + pl) (v0 := V (72 + pl) + G) (v1 := G) (v2 := V (36 + pl) + G) hy0 hy1 x0 x1 (by rw [← hpl]; omega) (by rw [p1]; omega) (by rw [p2]; omega) (by unfold unS; rw [if_neg (by decide), if_pos rfl, hG, p2]) (by unfold unS; rw [if_neg (by decide), if_neg (by decide), if_pos rfl, hG]) (by unfold unS; rw [if_neg (by decide), if_neg (by decide), if_neg (by decide), hG, p1]) hub.2.1 hub.1 hub.2.2
    have hok : ok1 V 3 y x ↔ (0 ≤ G ∧ G ≤ 255) ∧ (0 ≤ V (72 + pl) + G ∧ V (72 + pl) + G ≤ 255) ∧ (0 ≤ V (36 + pl) + G ∧ V (36 + pl) + G ≤ 255) := by
      unfold ok1; rw [hG, p1, p2]; constructor
      · intro h; rcases h with h | h
        · exact absurd h (by decide)
        · exact h
      · intro h; exact .inr h
    have hyes := fun (z : ok1 V 3 y x) => hk _ 1 hu (.inr rfl) ⟨fun _ => z, fun _ => rfl⟩
    have hno := fun (z : ¬ ok1 V 3 y x) => hk _ 0 hu (.inl rfl) ⟨fun h => absurd h (by decide), fun h => absurd h z⟩
    by_cases c1 : 0 ≤ G ∧ G ≤ 255
    · by_cases c2 : 0 ≤ V (72 + pl) + G ∧ V (72 + pl) + G ≤ 255
      · by_cases c3 : 0 ≤ V (36 + pl) + G ∧ V (36 + pl) + G ≤ 255
        · simp (config := {contextual := true, maxSteps := 1000000}) (disch := omega) only [r73_0, r73_1, r73_1_1, r73_4, r73_5_T, r73_5_F, r73_5, r73_8, r73_9, r73_9_1, r73_12, r73_13, r73_14, r73_15, r73_16, r73_19, r73_20, r73_21, r73_21_1, r73_22, r73_23, r73_24, r73_25, r73_28, r73_30, r73_31, r73_32, r73_33, r73_35, r73_36, r73_39, r73_41, r73_42, r73_43, r73_44, r73_46, r73_47, r73_50, r73_51, r73_52, r73_54, r73_56, r73_57, r73_58, r73_59, r73_60, r73_62, r73_63, r73_63_1, r73_66, r73_67, r73_68, r73_69, r73_71, r73_73, r73_74, r73_74_1, r73_75, r73_76, r73_76_1, r73_79, r73_80, r73_82, r73_83, r73_84, r73_85, r73_87, r73_87_1, r73_88, r73_89, r73_89_1, r73_92, r73_93, r73_95, r73_96, r73_97, r73_98, r73_100, r73_102, r73_103, r73_103_1, r73_104, r73_106, r73_109_T, r73_109_F, r73_109, r73_112, r73_114, r73_116, r73_117, r73_120_T, r73_120_F, r73_120, r73_123, r73_125, r73_127, r73_128, r73_131_T, r73_131_F, r73_131, r73_134, r73_135, r73_138, r73_139, hpn, eV, hG', s_isSample, c1, c2, c3, xAf_none, xAf_some, xu_app, Nat.reduceAdd, Nat.reduceSub, Nat.reduceEqDiff, Nat.reduceMul, reduceIte, and_self, and_true, true_and, and_false, false_and, true_implies, false_implies, implies_true, not_true_eq_false, not_false_eq_true, Int.reduceToNat, Int.reducePow, Int.reduceNeg, Int.reduceLT, Int.reduceLE, Int.reduceAdd, Int.reduceSub, Int.reduceMul, Int.reduceDiv, Int.reduceMod, Int.reduceEq, xA_1, xA_15, xA_255, xA_511, xA_65535, xA_32768]
          exact hyes (hok.mpr ⟨c1, c2, c3⟩)
        · simp (config := {contextual := true, maxSteps := 1000000}) (disch := omega) only [r73_0, r73_1, r73_1_1, r73_4, r73_5_T, r73_5_F, r73_5, r73_8, r73_9, r73_9_1, r73_12, r73_13, r73_14, r73_15, r73_16, r73_19, r73_20, r73_21, r73_21_1, r73_22, r73_23, r73_24, r73_25, r73_28, r73_30, r73_31, r73_32, r73_33, r73_35, r73_36, r73_39, r73_41, r73_42, r73_43, r73_44, r73_46, r73_47, r73_50, r73_51, r73_52, r73_54, r73_56, r73_57, r73_58, r73_59, r73_60, r73_62, r73_63, r73_63_1, r73_66, r73_67, r73_68, r73_69, r73_71, r73_73, r73_74, r73_74_1, r73_75, r73_76, r73_76_1, r73_79, r73_80, r73_82, r73_83, r73_84, r73_85, r73_87, r73_87_1, r73_88, r73_89, r73_89_1, r73_92, r73_93, r73_95, r73_96, r73_97, r73_98, r73_100, r73_102, r73_103, r73_103_1, r73_104, r73_106, r73_109_T, r73_109_F, r73_109, r73_112, r73_114, r73_116, r73_117, r73_120_T, r73_120_F, r73_120, r73_123, r73_125, r73_127, r73_128, r73_131_T, r73_131_F, r73_131, r73_134, r73_135, r73_138, r73_139, hpn, eV, hG', s_isSample, c1, c2, c3, xAf_none, xAf_some, xu_app, Nat.reduceAdd, Nat.reduceSub, Nat.reduceEqDiff, Nat.reduceMul, reduceIte, and_self, and_true, true_and, and_false, false_and, true_implies, false_implies, implies_true, not_true_eq_false, not_false_eq_true, Int.reduceToNat, Int.reducePow, Int.reduceNeg, Int.reduceLT, Int.reduceLE, Int.reduceAdd, Int.reduceSub, Int.reduceMul, Int.reduceDiv, Int.reduceMod, Int.reduceEq, xA_1, xA_15, xA_255, xA_511, xA_65535, xA_32768]
          exact hno (fun z => c3 (hok.mp z).2.2)
      · simp (config := {contextual := true, maxSteps := 1000000}) (disch := omega) only [r73_0, r73_1, r73_1_1, r73_4, r73_5_T, r73_5_F, r73_5, r73_8, r73_9, r73_9_1, r73_12, r73_13, r73_14, r73_15, r73_16, r73_19, r73_20, r73_21, r73_21_1, r73_22, r73_23, r73_24, r73_25, r73_28, r73_30, r73_31, r73_32, r73_33, r73_35, r73_36, r73_39, r73_41, r73_42, r73_43, r73_44, r73_46, r73_47, r73_50, r73_51, r73_52, r73_54, r73_56, r73_57, r73_58, r73_59, r73_60, r73_62, r73_63, r73_63_1, r73_66, r73_67, r73_68, r73_69, r73_71, r73_73, r73_74, r73_74_1, r73_75, r73_76, r73_76_1, r73_79, r73_80, r73_82, r73_83, r73_84, r73_85, r73_87, r73_87_1, r73_88, r73_89, r73_89_1, r73_92, r73_93, r73_95, r73_96, r73_97, r73_98, r73_100, r73_102, r73_103, r73_103_1, r73_104, r73_106, r73_109_T, r73_109_F, r73_109, r73_112, r73_114, r73_116, r73_117, r73_120_T, r73_120_F, r73_120, r73_123, r73_125, r73_127, r73_128, r73_131_T, r73_131_F, r73_131, r73_134, r73_135, r73_138, r73_139, hpn, eV, hG', s_isSample, c1, c2, xAf_none, xAf_some, xu_app, Nat.reduceAdd, Nat.reduceSub, Nat.reduceEqDiff, Nat.reduceMul, reduceIte, and_self, and_true, true_and, and_false, false_and, true_implies, false_implies, implies_true, not_true_eq_false, not_false_eq_true, Int.reduceToNat, Int.reducePow, Int.reduceNeg, Int.reduceLT, Int.reduceLE, Int.reduceAdd, Int.reduceSub, Int.reduceMul, Int.reduceDiv, Int.reduceMod, Int.reduceEq, xA_1, xA_15, xA_255, xA_511, xA_65535, xA_32768]
        exact hno (fun z => c2 (hok.mp z).2.1)
    · simp (config := {contextual := true, maxSteps := 1000000}) (disch := omega) only [r73_0, r73_1, r73_1_1, r73_4, r73_5_T, r73_5_F, r73_5, r73_8, r73_9, r73_9_1, r73_12, r73_13, r73_14, r73_15, r73_16, r73_19, r73_20, r73_21, r73_21_1, r73_22, r73_23, r73_24, r73_25, r73_28, r73_30, r73_31, r73_32, r73_33, r73_35, r73_36, r73_39, r73_41, r73_42, r73_43, r73_44, r73_46, r73_47, r73_50, r73_51, r73_52, r73_54, r73_56, r73_57, r73_58, r73_59, r73_60, r73_62, r73_63, r73_63_1, r73_66, r73_67, r73_68, r73_69, r73_71, r73_73, r73_74, r73_74_1, r73_75, r73_76, r73_76_1, r73_79, r73_80, r73_82, r73_83, r73_84, r73_85, r73_87, r73_87_1, r73_88, r73_89, r73_89_1, r73_92, r73_93, r73_95, r73_96, r73_97, r73_98, r73_100, r73_102, r73_103, r73_103_1, r73_104, r73_106, r73_109_T, r73_109_F, r73_109, r73_112, r73_114, r73_116, r73_117, r73_120_T, r73_120_F, r73_120, r73_123, r73_125, r73_127, r73_128, r73_131_T, r73_131_F, r73_131, r73_134, r73_135, r73_138, r73_139, hpn, eV, hG', s_isSample, c1, xAf_none, xAf_some, xu_app, Nat.reduceAdd, Nat.reduceSub, Nat.reduceEqDiff, Nat.reduceMul, reduceIte, and_self, and_true, true_and, and_false, false_and, true_implies, false_implies, implies_true, not_true_eq_false, not_false_eq_true, Int.reduceToNat, Int.reducePow, Int.reduceNeg, Int.reduceLT, Int.reduceLE, Int.reduceAdd, Int.reduceSub, Int.reduceMul, Int.reduceDiv, Int.reduceMod, Int.reduceEq, xA_1, xA_15, xA_255, xA_511, xA_65535, xA_32768]
      exact hno (fun z => c1 (hok.mp z).1)
set_option maxRecDepth 100000 in
theorem l_ux (f0 : 0 ≤ fr) (f1 : fr < 3) (hp : pn = 1 ∨ pn = 3) (w0 : 1 ≤ w) (w1 : w ≤ 6) (hpr : prp V w y0 y1 pn) {y : Int} (hy0 : 0 ≤ y0) (hy1 : y1 ≤ 6) (ya : y0 ≤ y) (yb : y < y1) (hw : f 5 0 = w) (hpn : f 5 2 = pn) (hd : 2 ≤ d) {l3 : Value} (n : Nat) : ∀ (a : Nat → Int → Int) (x b : Int), x + n = w → 0 ≤ x → a 13 = V → (b = 0 ∨ b = 1) →
    (∀ a' b', uS 7 a a' V fr pn (fun y' x' => y' = y ∧ x ≤ x' ∧ x' < w) → (b' = 0 ∨ b' = 1) → (b' = 1 ↔ b = 1 ∧ ∀ x', x ≤ x' → x' < w → ok1 V pn y x') → xT d 72 63 [.ref 12, .ref 5, .int (xI fr), l3, .int (xI y1), .int (xI b'), .int (xI y), .int (xI w)] [] (hh f a' g) Q) →
    xT d 72 16 [.ref 12, .ref 5, .int (xI fr), l3, .int (xI y1), .int (xI b), .int (xI y), .int (xI x)] [] (hh f a g) Q := by
  induction n with
  | zero =>
    intro a x b hx x0 hV hb hk
    have hxw : x = w := by omega
    subst hxw
    rw [r72_16]
    simp (config := {contextual := true, maxSteps := 1000000}) (disch := omega) only [r72_0, r72_1, r72_3, r72_4, r72_8, r72_10_T, r72_10_F, r72_10, r72_13, r72_14, r72_18, r72_19, r72_19_1, r72_22_T, r72_22_F, r72_22, r72_25, r72_26, r72_27, r72_28, r72_30, r72_31, r72_32, r72_34, r72_36, r72_39, r72_42_T, r72_42_F, r72_42, r72_45, r72_47_T, r72_47_F, r72_47, r72_50, r72_51, r72_54, r72_55, r72_57, r72_60, r72_66, r72_69, r72_71, hw, xAf_none, xAf_some, xu_app, Nat.reduceAdd, Nat.reduceSub, Nat.reduceEqDiff, Nat.reduceMul, reduceIte, and_self, and_true, true_and, and_false, false_and, true_implies, false_implies, implies_true, not_true_eq_false, not_false_eq_true, Int.reduceToNat, Int.reducePow, Int.reduceNeg, Int.reduceLT, Int.reduceLE, Int.reduceAdd, Int.reduceSub, Int.reduceMul, Int.reduceDiv, Int.reduceMod, Int.reduceEq, xA_1, xA_15, xA_255, xA_511, xA_65535, xA_32768]
    exact hk a b (uS.none fun y' x' _ _ _ _ h => by omega) hb ⟨fun h => ⟨h, fun x' h1 h2 => by omega⟩, fun h => h.1⟩
  | succ n ih =>
    intro a x b hx x0 hV hb hk
    obtain ⟨pl, hpl⟩ : ∃ pl, (0 * 6 + y) * 6 + x = pl := ⟨_, rfl⟩
    have hpl2 : (0 + y) * 6 + x = pl := by omega
    have hpl3 : y * 6 + x = pl := by omega
    rw [r72_16]
    simp (config := {contextual := true, maxSteps := 1000000}) (disch := omega) only [r72_0, r72_1, r72_3, r72_4, r72_8, r72_10_T, r72_10_F, r72_10, r72_13, r72_14, r72_18, r72_19, r72_19_1, r72_22_T, r72_22_F, r72_22, r72_25, r72_26, r72_27, r72_28, r72_30, r72_31, r72_32, r72_34, r72_36, r72_39, r72_42_T, r72_42_F, r72_42, r72_45, r72_47_T, r72_47_F, r72_47, r72_50, r72_51, r72_54, r72_55, r72_57, r72_60, r72_66, r72_69, r72_71, hw, s_placeOf, Int.zero_add, Int.zero_mul, hpl, hpl2, hpl3, xAf_none, xAf_some, xu_app, Nat.reduceAdd, Nat.reduceSub, Nat.reduceEqDiff, Nat.reduceMul, reduceIte, and_self, and_true, true_and, and_false, false_and, true_implies, false_implies, implies_true, not_true_eq_false, not_false_eq_true, Int.reduceToNat, Int.reducePow, Int.reduceNeg, Int.reduceLT, Int.reduceLE, Int.reduceAdd, Int.reduceSub, Int.reduceMul, Int.reduceDiv, Int.reduceMod, Int.reduceEq, xA_1, xA_15, xA_255, xA_511, xA_65535, xA_32768]
    refine p_up (y := y) (x := x) f0 f1 hpn hp (by omega) (by omega) x0 (by omega) (by unfold stPl; omega) hV (fun q q0 q1 => hpr q y x q0 q1 ya yb x0 (by omega)) (by omega) fun a1 b1 U1 hb1 ho1 => ?_
    have hgo : ∀ b2, (b2 = 0 ∨ b2 = 1) → (b2 = 1 ↔ b = 1 ∧ ok1 V pn y x) → xT d 72 16 [.ref 12, .ref 5, .int (xI fr), l3, .int (xI y1), .int (xI b2), .int (xI y), .int (xI (x + 1))] [] (hh f a1 g) Q := fun b2 hb2 ho2 => by
      refine ih a1 (x + 1) b2 (by omega) (by omega) (by rw [U1.1 13 (by decide)]; exact hV) hb2 fun a' b' U' hb' ho' => hk a' b' (U1.trans U' fun y' x' _ _ _ _ => by omega) hb' ?_
      rw [ho', ho2]
      constructor
      · intro ⟨⟨h1, h2⟩, h3⟩
        exact ⟨h1, fun x' q1 q2 => by
          by_cases hxx : x' = x
          · rw [hxx]; exact h2
          · exact h3 x' (by omega) q2⟩
      · intro ⟨h1, h2⟩
        exact ⟨⟨h1, h2 x (by omega) (by omega)⟩, fun x' q1 q2 => h2 x' (by omega) q2⟩
    rcases hb1 with rfl | rfl
    · simp (config := {contextual := true, maxSteps := 1000000}) (disch := omega) only [r72_0, r72_1, r72_3, r72_4, r72_8, r72_10_T, r72_10_F, r72_10, r72_13, r72_14, r72_18, r72_19, r72_19_1, r72_22_T, r72_22_F, r72_22, r72_25, r72_26, r72_27, r72_28, r72_30, r72_31, r72_32, r72_34, r72_36, r72_39, r72_42_T, r72_42_F, r72_42, r72_45, r72_47_T, r72_47_F, r72_47, r72_50, r72_51, r72_54, r72_55, r72_57, r72_60, r72_66, r72_69, r72_71, xAf_none, xAf_some, xu_app, Nat.reduceAdd, Nat.reduceSub, Nat.reduceEqDiff, Nat.reduceMul, reduceIte, and_self, and_true, true_and, and_false, false_and, true_implies, false_implies, implies_true, not_true_eq_false, not_false_eq_true, Int.reduceToNat, Int.reducePow, Int.reduceNeg, Int.reduceLT, Int.reduceLE, Int.reduceAdd, Int.reduceSub, Int.reduceMul, Int.reduceDiv, Int.reduceMod, Int.reduceEq, xA_1, xA_15, xA_255, xA_511, xA_65535, xA_32768]
      exact hgo 0 (.inl rfl) ⟨fun h => absurd h (by decide), fun h => absurd (ho1.mpr h.2) (by decide)⟩
    · rcases hb with rfl | rfl
      · simp (config := {contextual := true, maxSteps := 1000000}) (disch := omega) only [r72_0, r72_1, r72_3, r72_4, r72_8, r72_10_T, r72_10_F, r72_10, r72_13, r72_14, r72_18, r72_19, r72_19_1, r72_22_T, r72_22_F, r72_22, r72_25, r72_26, r72_27, r72_28, r72_30, r72_31, r72_32, r72_34, r72_36, r72_39, r72_42_T, r72_42_F, r72_42, r72_45, r72_47_T, r72_47_F, r72_47, r72_50, r72_51, r72_54, r72_55, r72_57, r72_60, r72_66, r72_69, r72_71, xAf_none, xAf_some, xu_app, Nat.reduceAdd, Nat.reduceSub, Nat.reduceEqDiff, Nat.reduceMul, reduceIte, and_self, and_true, true_and, and_false, false_and, true_implies, false_implies, implies_true, not_true_eq_false, not_false_eq_true, Int.reduceToNat, Int.reducePow, Int.reduceNeg, Int.reduceLT, Int.reduceLE, Int.reduceAdd, Int.reduceSub, Int.reduceMul, Int.reduceDiv, Int.reduceMod, Int.reduceEq, xA_1, xA_15, xA_255, xA_511, xA_65535, xA_32768]
        exact hgo 0 (.inl rfl) ⟨fun h => absurd h (by decide), fun h => absurd h.1 (by decide)⟩
      · simp (config := {contextual := true, maxSteps := 1000000}) (disch := omega) only [r72_0, r72_1, r72_3, r72_4, r72_8, r72_10_T, r72_10_F, r72_10, r72_13, r72_14, r72_18, r72_19, r72_19_1, r72_22_T, r72_22_F, r72_22, r72_25, r72_26, r72_27, r72_28, r72_30, r72_31, r72_32, r72_34, r72_36, r72_39, r72_42_T, r72_42_F, r72_42, r72_45, r72_47_T, r72_47_F, r72_47, r72_50, r72_51, r72_54, r72_55, r72_57, r72_60, r72_66, r72_69, r72_71, xAf_none, xAf_some, xu_app, Nat.reduceAdd, Nat.reduceSub, Nat.reduceEqDiff, Nat.reduceMul, reduceIte, and_self, and_true, true_and, and_false, false_and, true_implies, false_implies, implies_true, not_true_eq_false, not_false_eq_true, Int.reduceToNat, Int.reducePow, Int.reduceNeg, Int.reduceLT, Int.reduceLE, Int.reduceAdd, Int.reduceSub, Int.reduceMul, Int.reduceDiv, Int.reduceMod, Int.reduceEq, xA_1, xA_15, xA_255, xA_511, xA_65535, xA_32768]
        exact hgo 1 (.inr rfl) ⟨fun _ => ⟨rfl, ho1.mp rfl⟩, fun _ => rfl⟩
set_option maxRecDepth 100000 in
theorem l_uy (f0 : 0 ≤ fr) (f1 : fr < 3) (hp : pn = 1 ∨ pn = 3) (w0 : 1 ≤ w) (w1 : w ≤ 6) (hpr : prp V w y0 y1 pn) (hy0 : 0 ≤ y0) (hy1 : y1 ≤ 6) (hw : f 5 0 = w) (hpn : f 5 2 = pn) (hd : 2 ≤ d) {l3 : Value} (n : Nat) : ∀ (a : Nat → Int → Int) (y b : Int) (l7 : Value), y + n = y1 → y0 ≤ y → a 13 = V → (b = 0 ∨ b = 1) →
    (∀ a' b', uS 7 a a' V fr pn (fun y' x' => y ≤ y' ∧ y' < y1 ∧ x' < w) → (b' = 0 ∨ b' = 1) → (b' = 1 ↔ b = 1 ∧ ∀ y' x', y ≤ y' → y' < y1 → 0 ≤ x' → x' < w → ok1 V pn y' x') → Q (hh f a' g, .returned (some (.int (xI b'))))) →
    xT d 72 6 [.ref 12, .ref 5, .int (xI fr), l3, .int (xI y1), .int (xI b), .int (xI y), l7] [] (hh f a g) Q := by
  induction n with
  | zero =>
    intro a y b l7 hx ya hV hb hk
    rw [r72_6]
    simp (config := {contextual := true, maxSteps := 1000000}) (disch := omega) only [r72_0, r72_1, r72_3, r72_4, r72_8, r72_10_T, r72_10_F, r72_10, r72_13, r72_14, r72_18, r72_19, r72_19_1, r72_22_T, r72_22_F, r72_22, r72_25, r72_26, r72_27, r72_28, r72_30, r72_31, r72_32, r72_34, r72_36, r72_39, r72_42_T, r72_42_F, r72_42, r72_45, r72_47_T, r72_47_F, r72_47, r72_50, r72_51, r72_54, r72_55, r72_57, r72_60, r72_63, r72_66, r72_69, r72_71, xAf_none, xAf_some, xu_app, Nat.reduceAdd, Nat.reduceSub, Nat.reduceEqDiff, Nat.reduceMul, reduceIte, and_self, and_true, true_and, and_false, false_and, true_implies, false_implies, implies_true, not_true_eq_false, not_false_eq_true, Int.reduceToNat, Int.reducePow, Int.reduceNeg, Int.reduceLT, Int.reduceLE, Int.reduceAdd, Int.reduceSub, Int.reduceMul, Int.reduceDiv, Int.reduceMod, Int.reduceEq, xA_1, xA_15, xA_255, xA_511, xA_65535, xA_32768]
    exact hk a b (uS.none fun y' x' _ _ _ _ h => by omega) hb ⟨fun h => ⟨h, fun y' x' h1 h2 => by omega⟩, fun h => h.1⟩
  | succ n ih =>
    intro a y b l7 hx ya hV hb hk
    rw [r72_6]
    simp (config := {contextual := true, maxSteps := 1000000}) (disch := omega) only [r72_0, r72_1, r72_3, r72_4, r72_8, r72_10_T, r72_10_F, r72_10, r72_13, r72_14, r72_18, r72_19, r72_19_1, r72_22_T, r72_22_F, r72_22, r72_25, r72_26, r72_27, r72_28, r72_30, r72_31, r72_32, r72_34, r72_36, r72_39, r72_42_T, r72_42_F, r72_42, r72_45, r72_47_T, r72_47_F, r72_47, r72_50, r72_51, r72_54, r72_55, r72_57, r72_60, r72_63, r72_66, r72_69, r72_71, xAf_none, xAf_some, xu_app, Nat.reduceAdd, Nat.reduceSub, Nat.reduceEqDiff, Nat.reduceMul, reduceIte, and_self, and_true, true_and, and_false, false_and, true_implies, false_implies, implies_true, not_true_eq_false, not_false_eq_true, Int.reduceToNat, Int.reducePow, Int.reduceNeg, Int.reduceLT, Int.reduceLE, Int.reduceAdd, Int.reduceSub, Int.reduceMul, Int.reduceDiv, Int.reduceMod, Int.reduceEq, xA_1, xA_15, xA_255, xA_511, xA_65535, xA_32768]
    refine l_ux f0 f1 hp w0 w1 hpr hy0 hy1 ya (by omega) hw hpn hd w.toNat a 0 b (by omega) (by omega) hV hb fun a1 b1 U1 hb1 ho1 => ?_
    simp (config := {contextual := true, maxSteps := 1000000}) (disch := omega) only [r72_0, r72_1, r72_3, r72_4, r72_8, r72_10_T, r72_10_F, r72_10, r72_13, r72_14, r72_18, r72_19, r72_19_1, r72_22_T, r72_22_F, r72_22, r72_25, r72_26, r72_27, r72_28, r72_30, r72_31, r72_32, r72_34, r72_36, r72_39, r72_42_T, r72_42_F, r72_42, r72_45, r72_47_T, r72_47_F, r72_47, r72_50, r72_51, r72_54, r72_55, r72_57, r72_60, r72_63, r72_66, r72_69, r72_71, xAf_none, xAf_some, xu_app, Nat.reduceAdd, Nat.reduceSub, Nat.reduceEqDiff, Nat.reduceMul, reduceIte, and_self, and_true, true_and, and_false, false_and, true_implies, false_implies, implies_true, not_true_eq_false, not_false_eq_true, Int.reduceToNat, Int.reducePow, Int.reduceNeg, Int.reduceLT, Int.reduceLE, Int.reduceAdd, Int.reduceSub, Int.reduceMul, Int.reduceDiv, Int.reduceMod, Int.reduceEq, xA_1, xA_15, xA_255, xA_511, xA_65535, xA_32768]
    refine ih a1 (y + 1) b1 _ (by omega) (by omega) (by rw [U1.1 13 (by decide)]; exact hV) hb1 fun a' b' U' hb' ho' => hk a' b' (U1.trans U' fun y' x' _ _ _ _ => by omega) hb' ?_
    rw [ho', ho1]
    constructor
    · intro ⟨⟨h1, h2⟩, h3⟩
      exact ⟨h1, fun y' x' q1 q2 q3 q4 => by
        by_cases hyy : y' = y
        · rw [hyy]; exact h2 x' q3 q4
        · exact h3 y' x' (by omega) q2 q3 q4⟩
    · intro ⟨h1, h2⟩
      exact ⟨⟨h1, fun x' q3 q4 => h2 y x' (by omega) (by omega) q3 q4⟩, fun y' x' q1 q2 q3 q4 => h2 y' x' (by omega) q2 q3 q4⟩
theorem p_unload (f0 : 0 ≤ fr) (f1 : fr < 3) (hp : pn = 1 ∨ pn = 3) (w0 : 1 ≤ w) (w1 : w ≤ 6) (hy0 : 0 ≤ y0) (hyy : y0 ≤ y1) (hy1 : y1 ≤ 6) (hw : f 5 0 = w) (hpn : f 5 2 = pn) (hpr : prp (a 13) w y0 y1 pn) (hd : 2 ≤ d) (hk : ∀ a' b', uS 7 a a' (a 13) fr pn (fun y' x' => y0 ≤ y' ∧ y' < y1 ∧ x' < w) → (b' = 0 ∨ b' = 1) → (b' = 1 ↔ fitV (a 13) w y0 y1 pn) → Q (hh f a' g, .returned (some (.int (xI b'))))) : xTC d 72 [.ref 12, .ref 5, .int (xI fr), .int (xI y0), .int (xI y1)] (hh f a g) Q := by
  rw [e72]
  simp (config := {contextual := true, maxSteps := 1000000}) (disch := omega) only [r72_0, r72_1, r72_3, r72_4, r72_8, r72_10_T, r72_10_F, r72_10, r72_13, r72_14, r72_18, r72_19, r72_19_1, r72_22_T, r72_22_F, r72_22, r72_25, r72_26, r72_27, r72_28, r72_30, r72_31, r72_32, r72_34, r72_36, r72_39, r72_42_T, r72_42_F, r72_42, r72_45, r72_47_T, r72_47_F, r72_47, r72_50, r72_51, r72_54, r72_55, r72_57, r72_60, r72_63, r72_66, r72_69, r72_71, xAf_none, xAf_some, xu_app, Nat.reduceAdd, Nat.reduceSub, Nat.reduceEqDiff, Nat.reduceMul, reduceIte, and_self, and_true, true_and, and_false, false_and, true_implies, false_implies, implies_true, not_true_eq_false, not_false_eq_true, Int.reduceToNat, Int.reducePow, Int.reduceNeg, Int.reduceLT, Int.reduceLE, Int.reduceAdd, Int.reduceSub, Int.reduceMul, Int.reduceDiv, Int.reduceMod, Int.reduceEq, xA_1, xA_15, xA_255, xA_511, xA_65535, xA_32768]
  refine l_uy f0 f1 hp w0 w1 hpr hy0 hy1 hw hpn hd (y1 - y0).toNat a y0 1 _ (by omega) (by omega) rfl (.inr rfl) fun a' b' U hb ho => hk a' b' U hb ?_
  rw [ho]; unfold fitV; simp
/-- whether the draft is what lies in the file -/
theorem l_same {D : List Int} (hF : ∀ j, 0 ≤ F j ∧ F j ≤ 255) (hDl : D.length ≤ 1200) (h80 : f 8 0 = ln) (h9 : a 9 = F) (fr0 : 0 ≤ fr) (hen : fr + D.length ≤ ln) (hln : ln ≤ 1200) (hB : xB f a D) (hd : 1 ≤ d) {b3 : Int32} (n : Nat) : ∀ (i : Nat), i + n = D.length →
    (∀ b', (b' = 0 ∨ b' = 1) → (b' = 1 ↔ ∀ j : Nat, i ≤ j → j < D.length → F (fr + j) = D.getD j 0) → Q (hh f a g, .returned (some (.int (xI b'))))) →
    xT d 45 20 [.ref 10, .ref 8, .int (xI fr), .int b3, .int (xI 1), .int (xI (i : Int))] [] (hh f a g) Q := by
  have h10 : f 10 0 = (D.length : Int) := by have := hB.1; omega
  have h11 := (hB.2.1 hDl).2
  have hby := hB.2.2.2
  induction n with
  | zero =>
    intro i hi hk
    rw [r45_20]
    simp (config := {contextual := true, maxSteps := 1000000}) (disch := omega) only [r45_0, r45_1, r45_1_1, r45_4, r45_5, r45_6, r45_7_T, r45_7_F, r45_7, r45_10, r45_11, r45_14, r45_15, r45_17, r45_18, r45_22_T, r45_22_F, r45_22, r45_25, r45_27, r45_28, r45_28_1, r45_31_T, r45_31_F, r45_31, r45_34, r45_35, r45_35_1, r45_38, r45_40, r45_40_1, r45_41, r45_42, r45_43, r45_45, r45_46, r45_46_1, r45_49_T, r45_49_F, r45_49, r45_52, r45_53, r45_56, r45_57, r45_59, r45_62, r45_65, r45_67, h10, xAf_none, xAf_some, xu_app, Nat.reduceAdd, Nat.reduceSub, Nat.reduceEqDiff, Nat.reduceMul, reduceIte, and_self, and_true, true_and, and_false, false_and, true_implies, false_implies, implies_true, not_true_eq_false, not_false_eq_true, Int.reduceToNat, Int.reducePow, Int.reduceNeg, Int.reduceLT, Int.reduceLE, Int.reduceAdd, Int.reduceSub, Int.reduceMul, Int.reduceDiv, Int.reduceMod, Int.reduceEq, xA_1, xA_15, xA_255, xA_511, xA_65535, xA_32768]
    exact hk 1 (.inr rfl) ⟨fun _ j h1 h2 => by omega, fun _ => rfl⟩
  | succ n ih =>
    intro i hi hk
    have e11 := h11 i (by omega)
    have e9 : a 9 (fr + (i : Int)) = F (fr + i) := by rw [h9]
    have b1 := hby i
    rw [r45_20]
    have hx0 : 0 ≤ f 8 0 := by omega
    have hx1 : f 8 0 ≤ 1200 := by omega
    have hin : 0 ≤ fr + (i : Int) ∧ fr + (i : Int) < f 8 0 := by omega
    have b2 := hF (fr + i)
    rw [e11] at b1
    by_cases hc : F (fr + i) = D.getD i 0
    · simp (config := {contextual := true, maxSteps := 1000000}) (disch := omega) only [r45_0, r45_1, r45_1_1, r45_4, r45_5, r45_6, r45_7_T, r45_7_F, r45_7, r45_10, r45_11, r45_14, r45_15, r45_17, r45_18, r45_22_T, r45_22_F, r45_22, r45_25, r45_27, r45_28, r45_28_1, r45_31_T, r45_31_F, r45_31, r45_34, r45_35, r45_35_1, r45_38, r45_40, r45_40_1, r45_41, r45_42, r45_43, r45_45, r45_46, r45_46_1, r45_49_T, r45_49_F, r45_49, r45_52, r45_53, r45_56, r45_57, r45_59, r45_62, r45_65, r45_67, h10, e11, e9, s_at8, hin, hc, xAf_none, xAf_some, xu_app, Nat.reduceAdd, Nat.reduceSub, Nat.reduceEqDiff, Nat.reduceMul, reduceIte, and_self, and_true, true_and, and_false, false_and, true_implies, false_implies, implies_true, not_true_eq_false, not_false_eq_true, Int.reduceToNat, Int.reducePow, Int.reduceNeg, Int.reduceLT, Int.reduceLE, Int.reduceAdd, Int.reduceSub, Int.reduceMul, Int.reduceDiv, Int.reduceMod, Int.reduceEq, xA_1, xA_15, xA_255, xA_511, xA_65535, xA_32768]
      have hnx : ((i : Int) + 1) = ((i + 1 : Nat) : Int) := by omega
      rw [hnx]
      refine ih (i + 1) (by omega) fun b' hb' ho' => hk b' hb' ?_
      rw [ho']
      exact ⟨fun h j h1 h2 => by
        by_cases hj : j = i
        · rw [hj]; exact hc
        · exact h j (by omega) h2, fun h j h1 h2 => h j (by omega) h2⟩
    · have hc' : ¬ D.getD i 0 = F (fr + i) := fun z => hc z.symm
      simp (config := {contextual := true, maxSteps := 1000000}) (disch := omega) only [r45_0, r45_1, r45_1_1, r45_4, r45_5, r45_6, r45_7_T, r45_7_F, r45_7, r45_10, r45_11, r45_14, r45_15, r45_17, r45_18, r45_22_T, r45_22_F, r45_22, r45_25, r45_27, r45_28, r45_28_1, r45_31_T, r45_31_F, r45_31, r45_34, r45_35, r45_35_1, r45_38, r45_40, r45_40_1, r45_41, r45_42, r45_43, r45_45, r45_46, r45_46_1, r45_49_T, r45_49_F, r45_49, r45_52, r45_53, r45_56, r45_57, r45_59, r45_62, r45_65, r45_67, h10, e11, e9, s_at8, hin, hc', xAf_none, xAf_some, xu_app, Nat.reduceAdd, Nat.reduceSub, Nat.reduceEqDiff, Nat.reduceMul, reduceIte, and_self, and_true, true_and, and_false, false_and, true_implies, false_implies, implies_true, not_true_eq_false, not_false_eq_true, Int.reduceToNat, Int.reducePow, Int.reduceNeg, Int.reduceLT, Int.reduceLE, Int.reduceAdd, Int.reduceSub, Int.reduceMul, Int.reduceDiv, Int.reduceMod, Int.reduceEq, xA_1, xA_15, xA_255, xA_511, xA_65535, xA_32768]
      rw [r45_20]
      simp (config := {contextual := true, maxSteps := 1000000}) (disch := omega) only [r45_0, r45_1, r45_1_1, r45_4, r45_5, r45_6, r45_7_T, r45_7_F, r45_7, r45_10, r45_11, r45_14, r45_15, r45_17, r45_18, r45_22_T, r45_22_F, r45_22, r45_25, r45_27, r45_28, r45_28_1, r45_31_T, r45_31_F, r45_31, r45_34, r45_35, r45_35_1, r45_38, r45_40, r45_40_1, r45_41, r45_42, r45_43, r45_45, r45_46, r45_46_1, r45_49_T, r45_49_F, r45_49, r45_52, r45_53, r45_56, r45_57, r45_59, r45_62, r45_65, r45_67, xAf_none, xAf_some, xu_app, Nat.reduceAdd, Nat.reduceSub, Nat.reduceEqDiff, Nat.reduceMul, reduceIte, and_self, and_true, true_and, and_false, false_and, true_implies, false_implies, implies_true, not_true_eq_false, not_false_eq_true, Int.reduceToNat, Int.reducePow, Int.reduceNeg, Int.reduceLT, Int.reduceLE, Int.reduceAdd, Int.reduceSub, Int.reduceMul, Int.reduceDiv, Int.reduceMod, Int.reduceEq, xA_1, xA_15, xA_255, xA_511, xA_65535, xA_32768]
      exact hk 0 (.inl rfl) ⟨fun h => absurd h (by decide), fun h => absurd (h i (by omega) (by omega)) hc⟩
theorem p_same {D : List Int} (hF : ∀ j, 0 ≤ F j ∧ F j ≤ 255) (hDl : D.length ≤ 1200) (h80 : f 8 0 = ln) (h9 : a 9 = F) (fr0 : 0 ≤ fr) (hfe : fr ≤ en) (hen : en ≤ ln) (hln : ln ≤ 1200) (hB : xB f a D) (hd : 1 ≤ d) (hk : ∀ b', (b' = 0 ∨ b' = 1) → (b' = 1 ↔ isD D F fr en) → Q (hh f a g, .returned (some (.int (xI b'))))) : xTC d 45 [.ref 10, .ref 8, .int (xI fr), .int (xI en)] (hh f a g) Q := by
  have h10 : f 10 0 = (D.length : Int) := by have := hB.1; omega
  rw [e45]
  by_cases hl : (D.length : Int) = en - fr
  · simp (config := {contextual := true, maxSteps := 1000000}) (disch := omega) only [r45_0, r45_1, r45_1_1, r45_4, r45_5, r45_6, r45_7_T, r45_7_F, r45_7, r45_10, r45_11, r45_14, r45_15, r45_17, r45_18, r45_22_T, r45_22_F, r45_22, r45_25, r45_27, r45_28, r45_28_1, r45_31_T, r45_31_F, r45_31, r45_34, r45_35, r45_35_1, r45_38, r45_40, r45_40_1, r45_41, r45_42, r45_43, r45_45, r45_46, r45_46_1, r45_49_T, r45_49_F, r45_49, r45_52, r45_53, r45_56, r45_57, r45_59, r45_62, r45_65, r45_67, h10, hl, xAf_none, xAf_some, xu_app, Nat.reduceAdd, Nat.reduceSub, Nat.reduceEqDiff, Nat.reduceMul, reduceIte, and_self, and_true, true_and, and_false, false_and, true_implies, false_implies, implies_true, not_true_eq_false, not_false_eq_true, Int.reduceToNat, Int.reducePow, Int.reduceNeg, Int.reduceLT, Int.reduceLE, Int.reduceAdd, Int.reduceSub, Int.reduceMul, Int.reduceDiv, Int.reduceMod, Int.reduceEq, xA_1, xA_15, xA_255, xA_511, xA_65535, xA_32768]
    refine l_same hF hDl h80 h9 fr0 (by omega) hln hB hd D.length 0 (by omega) fun b' hb' ho' => hk b' hb' ?_
    rw [ho']; unfold isD
    exact ⟨fun h => ⟨hl, fun j hj => h j (by omega) hj⟩, fun h j _ hj => h.2 j hj⟩
  · simp (config := {contextual := true, maxSteps := 1000000}) (disch := omega) only [r45_0, r45_1, r45_1_1, r45_4, r45_5, r45_6, r45_7_T, r45_7_F, r45_7, r45_10, r45_11, r45_14, r45_15, r45_17, r45_18, r45_22_T, r45_22_F, r45_22, r45_25, r45_27, r45_28, r45_28_1, r45_31_T, r45_31_F, r45_31, r45_34, r45_35, r45_35_1, r45_38, r45_40, r45_40_1, r45_41, r45_42, r45_43, r45_45, r45_46, r45_46_1, r45_49_T, r45_49_F, r45_49, r45_52, r45_53, r45_56, r45_57, r45_59, r45_62, r45_65, r45_67, h10, hl, xAf_none, xAf_some, xu_app, Nat.reduceAdd, Nat.reduceSub, Nat.reduceEqDiff, Nat.reduceMul, reduceIte, and_self, and_true, true_and, and_false, false_and, true_implies, false_implies, implies_true, not_true_eq_false, not_false_eq_true, Int.reduceToNat, Int.reducePow, Int.reduceNeg, Int.reduceLT, Int.reduceLE, Int.reduceAdd, Int.reduceSub, Int.reduceMul, Int.reduceDiv, Int.reduceMod, Int.reduceEq, xA_1, xA_15, xA_255, xA_511, xA_65535, xA_32768]
    rw [r45_20]
    simp (config := {contextual := true, maxSteps := 1000000}) (disch := omega) only [r45_0, r45_1, r45_1_1, r45_4, r45_5, r45_6, r45_7_T, r45_7_F, r45_7, r45_10, r45_11, r45_14, r45_15, r45_17, r45_18, r45_22_T, r45_22_F, r45_22, r45_25, r45_27, r45_28, r45_28_1, r45_31_T, r45_31_F, r45_31, r45_34, r45_35, r45_35_1, r45_38, r45_40, r45_40_1, r45_41, r45_42, r45_43, r45_45, r45_46, r45_46_1, r45_49_T, r45_49_F, r45_49, r45_52, r45_53, r45_56, r45_57, r45_59, r45_62, r45_65, r45_67, xAf_none, xAf_some, xu_app, Nat.reduceAdd, Nat.reduceSub, Nat.reduceEqDiff, Nat.reduceMul, reduceIte, and_self, and_true, true_and, and_false, false_and, true_implies, false_implies, implies_true, not_true_eq_false, not_false_eq_true, Int.reduceToNat, Int.reducePow, Int.reduceNeg, Int.reduceLT, Int.reduceLE, Int.reduceAdd, Int.reduceSub, Int.reduceMul, Int.reduceDiv, Int.reduceMod, Int.reduceEq, xA_1, xA_15, xA_255, xA_511, xA_65535, xA_32768]
    exact hk 0 (.inl rfl) ⟨fun h => absurd h (by decide), fun h => absurd h.1 hl⟩
/-- the coders begin to read -/
theorem p_br0 (h80 : f 8 0 = ln) (h9 : a 9 = F) (hd : 3 ≤ d) (hk : ∀ f' a', xR0 F fr en ln f' a' dInit → xFr f a f' a' → Q (hh f' a' g, .returned none)) : xTC d 56 [.ref 14, .int (xI fr), .int (xI en)] (hh f a g) Q := by
  rw [e56]
  simp (config := {contextual := true, maxSteps := 1000000}) (disch := omega) only [r56_0, r56_1, r56_2, r56_2_1, r56_5, r56_6, r56_6_1, r56_9, r56_10, r56_11, r56_14, r56_15, r56_15_1, r56_18, r59_0, r59_1, r59_4, r59_5, r59_8, r59_9, r59_12, r59_13, r59_16, r59_17, r59_18, r59_21, e59, r51_0, r51_1, r51_2, r51_2_1, r51_5, r51_6, r51_7, r51_7_1, r51_10, e51, s_fill15, s_fill16, xAf_none, xAf_some, xu_app, Nat.reduceAdd, Nat.reduceSub, Nat.reduceEqDiff, Nat.reduceMul, reduceIte, and_self, and_true, true_and, and_false, false_and, true_implies, false_implies, implies_true, not_true_eq_false, not_false_eq_true, Int.reduceToNat, Int.reducePow, Int.reduceNeg, Int.reduceLT, Int.reduceLE, Int.reduceAdd, Int.reduceSub, Int.reduceMul, Int.reduceDiv, Int.reduceMod, Int.reduceEq, xA_1, xA_15, xA_255, xA_511, xA_65535, xA_32768]
  refine hk _ _ ⟨rfl, ?_, h80, rfl, ?_, rfl, fun z => absurd rfl z, fun j j0 j1 => ?_, fun j => by unfold dInit; dsimp only; omega⟩ ⟨⟨fun i i1 i2 i3 i4 => ?_, fun k hk => ?_, fun i i1 i2 i3 i4 => ?_⟩, ?_⟩
  · exact h9
  · show fr = fr + 0; omega
  · unfold afl dInit; dsimp only
    constructor
    · rw [if_neg (by omega), if_pos ⟨rfl, j0, j1⟩]
    · rw [if_pos ⟨rfl, j0, j1⟩]
  · simp only [xu_ne _ i1, xu_ne _ i3]
  · simp only [xu_app]; rw [if_neg (by omega), if_neg (by omega), if_neg (by omega), if_neg (by omega)]
  · funext j; unfold afl; rw [if_neg (by omega), if_neg (by omega)]
  · funext j; unfold afl; rw [if_neg (by omega), if_neg (by omega)]
set_option maxRecDepth 100000 in
theorem p_br1 (hF : ∀ j, 0 ≤ F j ∧ F j ≤ 255) (h80 : f 8 0 = ln) (h9 : a 9 = F) (hfr : 0 ≤ fr) (hfr1 : fr ≤ 1200) (hen : en ≤ ln) (hen0 : 0 ≤ en) (hln : ln ≤ 1200) (hd : 3 ≤ d) (hk : ∀ f' a', xR1 F fr en ln f' a' (qInit (sb F fr en 0 * 256 + sb F fr en 1)) → xFr f a f' a' → Q (hh f' a' g, .returned none)) : xTC d 56 [.ref 17, .int (xI fr), .int (xI en)] (hh f a g) Q := by
  have s0 := sb_bd hF fr en 0
  have s1 := sb_bd hF fr en 1
  have es0 : sB F en fr = sb F fr en 0 := by unfold sb; congr 1; omega
  have es1 : sB F en (fr + 1) = sb F fr en 1 := rfl
  rw [e56]
  simp (config := {contextual := true, maxSteps := 1000000}) (disch := omega) only [r56_0, r56_1, r56_2, r56_2_1, r56_5, r56_6, r56_6_1, r56_9, r56_10, r56_11, r56_14, r56_15, r56_15_1, r56_18, r65_0, r65_1, r65_4, r65_7, r65_10, r65_11, r65_13, r65_16, r65_17, r65_18, r65_21, r65_24, r65_27, r65_28, r65_31_T, r65_31_F, r65_31, r65_34, r65_35, r65_36, r65_39, r65_42, r65_45, r65_46, r65_49, r65_50, r65_51, r65_54, r65_55, r65_58, r65_61, r65_62, r65_65, r65_68, r65_69, r65_72, r65_73, r65_76, r65_77, r65_80, r65_81, r65_84, e65, r51_0, r51_1, r51_2, r51_2_1, r51_5, r51_6, r51_7, r51_7_1, r51_10, e51, s_fill18, xAf_none, xAf_some, xu_app, Nat.reduceAdd, Nat.reduceSub, Nat.reduceEqDiff, Nat.reduceMul, reduceIte, and_self, and_true, true_and, and_false, false_and, true_implies, false_implies, implies_true, not_true_eq_false, not_false_eq_true, Int.reduceToNat, Int.reducePow, Int.reduceNeg, Int.reduceLT, Int.reduceLE, Int.reduceAdd, Int.reduceSub, Int.reduceMul, Int.reduceDiv, Int.reduceMod, Int.reduceEq, xA_1, xA_15, xA_255, xA_511, xA_65535, xA_32768]
  refine p_take (F := F) (en := en) (ln := ln) (q := fr) rfl rfl h80 h9 hfr (by omega) hen hen0 hln ?_
  rw [es0]
  simp (config := {contextual := true, maxSteps := 1000000}) (disch := omega) only [r56_0, r56_1, r56_2, r56_2_1, r56_5, r56_6, r56_6_1, r56_9, r56_10, r56_11, r56_14, r56_15, r56_15_1, r56_18, r65_0, r65_1, r65_4, r65_7, r65_10, r65_11, r65_13, r65_16, r65_17, r65_18, r65_21, r65_24, r65_27, r65_28, r65_31_T, r65_31_F, r65_31, r65_34, r65_35, r65_36, r65_39, r65_42, r65_45, r65_46, r65_49, r65_50, r65_51, r65_54, r65_55, r65_58, r65_61, r65_62, r65_65, r65_68, r65_69, r65_72, r65_73, r65_76, r65_77, r65_80, r65_81, r65_84, e65, r51_0, r51_1, r51_2, r51_2_1, r51_5, r51_6, r51_7, r51_7_1, r51_10, e51, s_fill18, xAf_none, xAf_some, xu_app, Nat.reduceAdd, Nat.reduceSub, Nat.reduceEqDiff, Nat.reduceMul, reduceIte, and_self, and_true, true_and, and_false, false_and, true_implies, false_implies, implies_true, not_true_eq_false, not_false_eq_true, Int.reduceToNat, Int.reducePow, Int.reduceNeg, Int.reduceLT, Int.reduceLE, Int.reduceAdd, Int.reduceSub, Int.reduceMul, Int.reduceDiv, Int.reduceMod, Int.reduceEq, xA_1, xA_15, xA_255, xA_511, xA_65535, xA_32768]
  refine p_take (F := F) (en := en) (ln := ln) (q := fr + 1) rfl rfl h80 h9 (by omega) (by omega) hen hen0 hln ?_
  rw [es1]
  simp (config := {contextual := true, maxSteps := 1000000}) (disch := omega) only [r56_0, r56_1, r56_2, r56_2_1, r56_5, r56_6, r56_6_1, r56_9, r56_10, r56_11, r56_14, r56_15, r56_15_1, r56_18, r65_0, r65_1, r65_4, r65_7, r65_10, r65_11, r65_13, r65_16, r65_17, r65_18, r65_21, r65_24, r65_27, r65_28, r65_31_T, r65_31_F, r65_31, r65_34, r65_35, r65_36, r65_39, r65_42, r65_45, r65_46, r65_49, r65_50, r65_51, r65_54, r65_55, r65_58, r65_61, r65_62, r65_65, r65_68, r65_69, r65_72, r65_73, r65_76, r65_77, r65_80, r65_81, r65_84, e65, r51_0, r51_1, r51_2, r51_2_1, r51_5, r51_6, r51_7, r51_7_1, r51_10, e51, s_fill18, xAf_none, xAf_some, xu_app, Nat.reduceAdd, Nat.reduceSub, Nat.reduceEqDiff, Nat.reduceMul, reduceIte, and_self, and_true, true_and, and_false, false_and, true_implies, false_implies, implies_true, not_true_eq_false, not_false_eq_true, Int.reduceToNat, Int.reducePow, Int.reduceNeg, Int.reduceLT, Int.reduceLE, Int.reduceAdd, Int.reduceSub, Int.reduceMul, Int.reduceDiv, Int.reduceMod, Int.reduceEq, xA_1, xA_15, xA_255, xA_511, xA_65535, xA_32768]
  refine hk _ _ ⟨rfl, h9, h80, rfl, ?_, rfl, rfl, fun j j0 j1 => if_pos ⟨rfl, j0, j1⟩, ⟨?_, ?_, fun j => ?_, ?_, ?_⟩⟩ ⟨⟨fun i i1 i2 i3 i4 => ?_, fun k hk => ?_, fun i i1 i2 i3 i4 => ?_⟩, ?_⟩
  · show fr + 1 + 1 = fr + ((2 : Nat) : Int); omega
  · unfold qInit; dsimp only; omega
  · unfold qInit; dsimp only; omega
  · unfold qInit; dsimp only; omega
  · unfold qInit; dsimp only; omega
  · unfold qInit; dsimp only; omega
  · simp only [xu_ne _ i1, xu_ne _ i4]
  · simp only [xu_app]; simp; omega
  · funext j; unfold afl; rw [if_neg (by omega)]
  · funext j; unfold afl; rw [if_neg (by omega)]
end S71
