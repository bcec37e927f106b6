/-! MODE 0: THE MODEL READS -/
def hmC (c : Int) : Int := if c < 63 then 128 else 256
def snd1 (c e : Int) : Int := if -hmC c ≤ e ∧ e < hmC c then e else 0
def spN (c e sp : Int) : Int := if sp = 0 ∧ -hmC c ≤ e ∧ e < hmC c then 0 else 1
abbrev mS : Type := dS × Int
def bmO (s : Nat → Int) (τ : mS) (c : Int) : Int := snd1 c (unz (bgot s τ.1 c))
def bmN (s : Nat → Int) (τ : mS) (c : Int) : mS := (dL τ.1 c (bmO s τ c) (bpos s τ.1 c), spN c (unz (bgot s τ.1 c)) τ.2)
theorem snd1_bd (c e : Int) : -256 ≤ snd1 c e ∧ snd1 c e ≤ 255 := by unfold snd1 hmC; split <;> split at * <;> omega
/-- the model reads bits -/
def xN0 (F : Int → Int) (fr en : Int) (f : Nat → Nat → Int) (a : Nat → Int → Int) (τ : mS) : Prop :=
  a 24 = F ∧ f 21 32 = fr ∧ f 21 33 = en ∧ f 21 30 = (τ.1.2.2 : Int) ∧ f 21 35 = τ.2 ∧ (τ.2 = 0 ∨ τ.2 = 1) ∧ (∀ j, 0 ≤ j → j < 126 → a 28 j = τ.1.1 j ∧ a 29 j = τ.1.2.1 j) ∧ bC (τ.1.1, τ.1.2.1, 0, 0, 0)
theorem bv_add {s : Nat → Int} (n : Nat) : ∀ p x, bv s p n x = x * 2 ^ n + bv s p n 0 := by
  induction n with
  | zero => intro p x; unfold bv; simp
  | succ n ih =>
    intro p x
    unfold bv
    rw [ih, ih (p + 1) (0 * 2 + s p), Int.pow_succ, Int.add_mul, Int.zero_mul, Int.zero_add, Int.mul_right_comm, Int.mul_assoc x, Int.add_assoc]
theorem xO_sh {x v : Int} {k : Nat} (x0 : 0 ≤ x) (x1 : x < 12) (hk : k ≤ 8) (v0 : 0 ≤ v) (v1 : v < 2 ^ k) : xO (x * 2 ^ k) v = x * 2 ^ k + v := by
  obtain ⟨m, rfl⟩ := Int.eq_ofNat_of_zero_le x0
  obtain ⟨n, rfl⟩ := Int.eq_ofNat_of_zero_le v0
  have e2 : ((2 ^ k : Nat) : Int) = 2 ^ k := by rw [Int.natCast_pow]; rfl
  rw [← e2] at v1 ⊢
  have hn : n < 2 ^ k := by omega
  have hk2 : 2 ^ k ≤ 2 ^ 8 := Nat.pow_le_pow_right (by omega) hk
  have hm : m * 2 ^ k ≤ 11 * 256 := Nat.mul_le_mul (by omega) hk2
  have h1 : ((m : Int) * ((2 ^ k : Nat) : Int)) = ((m * 2 ^ k : Nat) : Int) := by rw [Int.natCast_mul]
  rw [h1]
  unfold xO
  have h2 : (((m * 2 ^ k : Nat) : Int) % 4294967296).toNat = m * 2 ^ k := by omega
  have h3 : ((n : Int) % 4294967296).toNat = n := by omega
  rw [h2, h3]
  have h4 := Nat.shiftLeft_add_eq_or_of_lt hn m
  rw [Nat.shiftLeft_eq] at h4
  rw [← h4]; omega
section S66
variable {d : Nat} {Q : xm_H × Outcome → Prop} {f : Nat → Nat → Int} {a : Nat → Int → Int} {g : xG} {x b c e m z w sp : Int} {F : Int → Int} {fr en ln : Int} {τ : mS}
theorem p_tb {p : Nat} (hF : ∀ j, 0 ≤ F j ∧ F j ≤ 255) (h24 : a 24 = F) (h32 : f 21 32 = fr) (h33 : f 21 33 = en) (h30 : f 21 30 = (p : Int)) (hfr : 0 ≤ fr) (hfr1 : fr ≤ 1200) (hen0 : 0 ≤ en) (hen : en ≤ 1200) (hp : p ≤ 10000) (hk : Q (hh (xu f 21 30 ((p + 1 : Nat) : Int)) a g, .returned (some (.int (xI (bt F fr en p)))))) : xTC d 119 [.ref 21] (hh f a g) Q := by
  obtain ⟨u, hu⟩ : ∃ u : Nat, 7 - p % 8 = u := ⟨_, rfl⟩
  have hu' : (7 : Int) - (p : Int) % 8 = (u : Int) := by omega
  have et : ((u : Int)).toNat = u := by omega
  have hpn : ((p + 1 : Nat) : Int) = (p : Int) + 1 := by omega
  rw [hpn] at hk
  have hdv : ((p / 8 : Nat) : Int) = (p : Int) / 8 := by omega
  rw [e119]
  by_cases hc : fr + (p : Int) / 8 < en
  · have hbt : bt F fr en p = F (fr + (p : Int) / 8) / 2 ^ u % 2 := by unfold bt sB; rw [hdv, if_pos hc, hu]
    have hby := hF (fr + (p : Int) / 8)
    have h24' : a 24 (fr + (p : Int) / 8) = F (fr + (p : Int) / 8) := by rw [h24]
    have hdb := div_bound hby.1 u
    rw [hbt] at hk
    simp (config := {contextual := true, maxSteps := 1000000}) (disch := omega) only [r119_0, r119_1, r119_4, r119_5, r119_8, r119_10, r119_11, r119_12, r119_13, r119_14, r119_15, r119_18_T, r119_18_F, r119_18, r119_21, r119_22, r119_25, r119_26, r119_27, r119_29, r119_30, r119_33, r119_35, r119_36, r119_37, r119_38, r119_39, r119_40, r119_43, r119_44, r119_45, r119_46, r119_47, r119_50, r119_51, r119_52, r119_55, r119_56, h32, h33, h30, h24', hu', et, xAf_none, xAf_some, xu_app, Nat.reduceAdd, Nat.reduceSub, Nat.reduceEqDiff, Nat.reduceMul, reduceIte, and_self, and_true, true_and, and_false, false_and, true_implies, false_implies, implies_true, not_true_eq_false, not_false_eq_true, Int.reduceToNat, Int.reducePow, Int.reduceNeg, Int.reduceLT, Int.reduceLE, Int.reduceAdd, Int.reduceSub, Int.reduceMul, Int.reduceDiv, Int.reduceMod, Int.reduceEq, xA_1, xA_15, xA_255, xA_511, xA_65535, xA_32768]
    exact hk
  · have hbt : bt F fr en p = 0 := by unfold bt sB; rw [hdv, if_neg hc]; simp
    rw [hbt] at hk
    simp (config := {contextual := true, maxSteps := 1000000}) (disch := omega) only [r119_0, r119_1, r119_4, r119_5, r119_8, r119_10, r119_11, r119_12, r119_13, r119_14, r119_15, r119_18_T, r119_18_F, r119_18, r119_21, r119_22, r119_25, r119_26, r119_27, r119_29, r119_30, r119_33, r119_35, r119_36, r119_37, r119_38, r119_39, r119_40, r119_43, r119_44, r119_45, r119_46, r119_47, r119_50, r119_51, r119_52, r119_55, r119_56, h32, h33, h30, xAf_none, xAf_some, xu_app, Nat.reduceAdd, Nat.reduceSub, Nat.reduceEqDiff, Nat.reduceMul, reduceIte, and_self, and_true, true_and, and_false, false_and, true_implies, false_implies, implies_true, not_true_eq_false, not_false_eq_true, Int.reduceToNat, Int.reducePow, Int.reduceNeg, Int.reduceLT, Int.reduceLE, Int.reduceAdd, Int.reduceSub, Int.reduceMul, Int.reduceDiv, Int.reduceMod, Int.reduceEq, xA_1, xA_15, xA_255, xA_511, xA_65535, xA_32768]
    exact hk
theorem xN0.next {S C : Int → Int} {p q : Nat} {sp : Int} (h : xN0 F fr en f a ((S, C, p), sp)) : xN0 F fr en (xu f 21 30 (q : Int)) a ((S, C, q), sp) := by
  obtain ⟨h1, h2, h3, h4, h5, h6, h7, h8⟩ := h
  exact ⟨h1, h2, h3, rfl, h5, h6, h7, h8⟩
theorem xFe.bits {v : Int} : xFe f a (xu f 21 30 v) a := ⟨fun i hi => xu_ne _ hi, fun k k1 k2 k3 k4 k5 k6 => by rw [xu_app, if_neg (by omega)], fun _ _ _ _ _ => rfl⟩
theorem l_tbs (hF : ∀ j, 0 ≤ F j ∧ F j ≤ 255) (hfr : 0 ≤ fr) (hfr1 : fr ≤ 1200) (hen0 : 0 ≤ en) (hen : en ≤ 1200) {mn : Int} (hm9 : mn ≤ 9) {S C : Int → Int} (hd : 1 ≤ d) (n : Nat) : ∀ (f : Nat → Nat → Int) (p : Nat) (v i : Int), i + n = mn → 0 ≤ i → p + n ≤ 10000 → xN0 F fr en f a ((S, C, p), sp) →
    (∀ f', xN0 F fr en f' a ((S, C, p + n), sp) → xFe f a f' a → Q (hh f' a g, .returned (some (.int (xI (bv (bt F fr en) p n v)))))) →
    xT d 120 4 [.ref 21, .int (xI mn), .int (xI v), .int (xI i)] [] (hh f a g) Q := by
  induction n with
  | zero =>
    intro f p v i hi i0 hp hN hk
    rw [r120_4]
    simp (config := {contextual := true, maxSteps := 1000000}) (disch := omega) only [r120_0, r120_1, r120_2, r120_3, r120_5, r120_6_T, r120_6_F, r120_6, r120_9, r120_10, r120_11, r120_12, r120_13, r120_16, r120_17, r120_18, r120_21, r120_24, r120_25, xAf_none, xAf_some, xu_app, Nat.reduceAdd, Nat.reduceSub, Nat.reduceEqDiff, Nat.reduceMul, reduceIte, and_self, and_true, true_and, and_false, false_and, true_implies, false_implies, implies_true, not_true_eq_false, not_false_eq_true, Int.reduceToNat, Int.reducePow, Int.reduceNeg, Int.reduceLT, Int.reduceLE, Int.reduceAdd, Int.reduceSub, Int.reduceMul, Int.reduceDiv, Int.reduceMod, Int.reduceEq, xA_1, xA_15, xA_255, xA_511, xA_65535, xA_32768]
    exact hk f hN (xFe.refl _ _)
  | succ n ih =>
    intro f p v i hi i0 hp hN hk
    rw [r120_4]
    simp (config := {contextual := true, maxSteps := 1000000}) (disch := omega) only [r120_0, r120_1, r120_2, r120_3, r120_5, r120_6_T, r120_6_F, r120_6, r120_9, r120_10, r120_11, r120_12, r120_13, r120_16, r120_17, r120_18, r120_21, r120_24, r120_25, xAf_none, xAf_some, xu_app, Nat.reduceAdd, Nat.reduceSub, Nat.reduceEqDiff, Nat.reduceMul, reduceIte, and_self, and_true, true_and, and_false, false_and, true_implies, false_implies, implies_true, not_true_eq_false, not_false_eq_true, Int.reduceToNat, Int.reducePow, Int.reduceNeg, Int.reduceLT, Int.reduceLE, Int.reduceAdd, Int.reduceSub, Int.reduceMul, Int.reduceDiv, Int.reduceMod, Int.reduceEq, xA_1, xA_15, xA_255, xA_511, xA_65535, xA_32768]
    refine p_tb hF hN.1 hN.2.1 hN.2.2.1 hN.2.2.2.1 hfr hfr1 hen0 hen (by dsimp only; omega) ?_
    dsimp only
    simp (config := {contextual := true, maxSteps := 1000000}) (disch := omega) only [r120_0, r120_1, r120_2, r120_3, r120_5, r120_6_T, r120_6_F, r120_6, r120_9, r120_10, r120_11, r120_12, r120_13, r120_16, r120_17, r120_18, r120_21, r120_24, r120_25, xAf_none, xAf_some, xu_app, Nat.reduceAdd, Nat.reduceSub, Nat.reduceEqDiff, Nat.reduceMul, reduceIte, and_self, and_true, true_and, and_false, false_and, true_implies, false_implies, implies_true, not_true_eq_false, not_false_eq_true, Int.reduceToNat, Int.reducePow, Int.reduceNeg, Int.reduceLT, Int.reduceLE, Int.reduceAdd, Int.reduceSub, Int.reduceMul, Int.reduceDiv, Int.reduceMod, Int.reduceEq, xA_1, xA_15, xA_255, xA_511, xA_65535, xA_32768]
    refine ih _ (p + 1) _ (i + 1) (by omega) (by omega) (by omega) hN.next fun f' N' F' => ?_
    have := hk f' (by rw [show p + (n + 1) = p + 1 + n by omega]; exact N') (xFe.bits.trans F')
    unfold bv at this
    rw [Int.mul_comm 2 v]; exact this
theorem p_tbs {k : Nat} (hF : ∀ j, 0 ≤ F j ∧ F j ≤ 255) (hfr : 0 ≤ fr) (hfr1 : fr ≤ 1200) (hen0 : 0 ≤ en) (hen : en ≤ 1200) (hk9 : k ≤ 9) (hx : x = k) {S C : Int → Int} {p : Nat} (hd : 1 ≤ d) (hp : p + k ≤ 10000) (hN : xN0 F fr en f a ((S, C, p), sp)) (hk : ∀ f', xN0 F fr en f' a ((S, C, p + k), sp) → xFe f a f' a → Q (hh f' a g, .returned (some (.int (xI (bv (bt F fr en) p k 0)))))) : xTC d 120 [.ref 21, .int (xI x)] (hh f a g) Q := by
  rw [e120]
  simp (config := {contextual := true, maxSteps := 1000000}) (disch := omega) only [r120_0, r120_1, r120_2, r120_3, r120_5, r120_6_T, r120_6_F, r120_6, r120_9, r120_10, r120_11, r120_12, r120_13, r120_16, r120_17, r120_18, r120_21, r120_24, r120_25, xAf_none, xAf_some, xu_app, Nat.reduceAdd, Nat.reduceSub, Nat.reduceEqDiff, Nat.reduceMul, reduceIte, and_self, and_true, true_and, and_false, false_and, true_implies, false_implies, implies_true, not_true_eq_false, not_false_eq_true, Int.reduceToNat, Int.reducePow, Int.reduceNeg, Int.reduceLT, Int.reduceLE, Int.reduceAdd, Int.reduceSub, Int.reduceMul, Int.reduceDiv, Int.reduceMod, Int.reduceEq, xA_1, xA_15, xA_255, xA_511, xA_65535, xA_32768]
  exact l_tbs hF hfr hfr1 hen0 hen (by omega) hd k f p 0 0 (by omega) (by omega) hp hN hk
theorem p_sound (hm : m = 2 * hmC c) (e0 : -100000 ≤ e) (e1 : e ≤ 100000) (hsp : f 21 35 = sp) (hs01 : sp = 0 ∨ sp = 1) (hk : Q (hh (xu f 21 35 (spN c e sp)) a g, .returned (some (.int (xI (snd1 c e)))))) : xTC d 121 [.ref 21, .int (xI e), .int (xI m)] (hh f a g) Q := by
  have hm2 : m = 256 ∧ hmC c = 128 ∨ m = 512 ∧ hmC c = 256 := by rw [hm]; unfold hmC; split <;> omega
  have t2 : Int.tdiv (-256) 2 = -128 := rfl
  have t3 : Int.tdiv (-512) 2 = -256 := rfl
  unfold snd1 spN at hk
  rw [e121]
  rcases hm2 with ⟨rfl, h2⟩ | ⟨rfl, h2⟩
  · rw [h2] at hk
    rcases hs01 with rfl | rfl
    · by_cases c1 : -128 ≤ e ∧ e < 128
      · rw [if_pos c1, if_pos ⟨rfl, c1⟩] at hk
        simp (config := {contextual := true, maxSteps := 1000000}) (disch := omega) only [r121_0, r121_1, r121_2, r121_3, r121_4, r121_5_T, r121_5_F, r121_5, r121_8, r121_9, r121_10, r121_11, r121_12_T, r121_12_F, r121_12, r121_15, r121_16, r121_19, r121_20, r121_21, r121_22, r121_23, r121_26_T, r121_26_F, r121_26, r121_29, r121_30_T, r121_30_F, r121_30, r121_33, r121_34, r121_37, r121_38, r121_41, r121_42_T, r121_42_F, r121_42, r121_45, r121_46, r121_49, r121_50, hsp, t2, r121_4_t, xAf_none, xAf_some, xu_app, Nat.reduceAdd, Nat.reduceSub, Nat.reduceEqDiff, Nat.reduceMul, reduceIte, and_self, and_true, true_and, and_false, false_and, true_implies, false_implies, implies_true, not_true_eq_false, not_false_eq_true, Int.reduceToNat, Int.reducePow, Int.reduceNeg, Int.reduceLT, Int.reduceLE, Int.reduceAdd, Int.reduceSub, Int.reduceMul, Int.reduceDiv, Int.reduceMod, Int.reduceEq, xA_1, xA_15, xA_255, xA_511, xA_65535, xA_32768]
        exact hk
      · rw [if_neg c1, if_neg (fun z => c1 z.2)] at hk
        by_cases c2 : -128 ≤ e
        · simp (config := {contextual := true, maxSteps := 1000000}) (disch := omega) only [r121_0, r121_1, r121_2, r121_3, r121_4, r121_5_T, r121_5_F, r121_5, r121_8, r121_9, r121_10, r121_11, r121_12_T, r121_12_F, r121_12, r121_15, r121_16, r121_19, r121_20, r121_21, r121_22, r121_23, r121_26_T, r121_26_F, r121_26, r121_29, r121_30_T, r121_30_F, r121_30, r121_33, r121_34, r121_37, r121_38, r121_41, r121_42_T, r121_42_F, r121_42, r121_45, r121_46, r121_49, r121_50, hsp, t2, r121_4_t, xAf_none, xAf_some, xu_app, Nat.reduceAdd, Nat.reduceSub, Nat.reduceEqDiff, Nat.reduceMul, reduceIte, and_self, and_true, true_and, and_false, false_and, true_implies, false_implies, implies_true, not_true_eq_false, not_false_eq_true, Int.reduceToNat, Int.reducePow, Int.reduceNeg, Int.reduceLT, Int.reduceLE, Int.reduceAdd, Int.reduceSub, Int.reduceMul, Int.reduceDiv, Int.reduceMod, Int.reduceEq, xA_1, xA_15, xA_255, xA_511, xA_65535, xA_32768]
          exact hk
        · simp (config := {contextual := true, maxSteps := 1000000}) (disch := omega) only [r121_0, r121_1, r121_2, r121_3, r121_4, r121_5_T, r121_5_F, r121_5, r121_8, r121_9, r121_10, r121_11, r121_12_T, r121_12_F, r121_12, r121_15, r121_16, r121_19, r121_20, r121_21, r121_22, r121_23, r121_26_T, r121_26_F, r121_26, r121_29, r121_30_T, r121_30_F, r121_30, r121_33, r121_34, r121_37, r121_38, r121_41, r121_42_T, r121_42_F, r121_42, r121_45, r121_46, r121_49, r121_50, hsp, t2, r121_4_t, xAf_none, xAf_some, xu_app, Nat.reduceAdd, Nat.reduceSub, Nat.reduceEqDiff, Nat.reduceMul, reduceIte, and_self, and_true, true_and, and_false, false_and, true_implies, false_implies, implies_true, not_true_eq_false, not_false_eq_true, Int.reduceToNat, Int.reducePow, Int.reduceNeg, Int.reduceLT, Int.reduceLE, Int.reduceAdd, Int.reduceSub, Int.reduceMul, Int.reduceDiv, Int.reduceMod, Int.reduceEq, xA_1, xA_15, xA_255, xA_511, xA_65535, xA_32768]
          exact hk
    · rw [if_neg (c := (1 : Int) = 0 ∧ _) (by omega)] at hk
      by_cases c1 : -128 ≤ e ∧ e < 128
      · rw [if_pos c1] at hk
        simp (config := {contextual := true, maxSteps := 1000000}) (disch := omega) only [r121_0, r121_1, r121_2, r121_3, r121_4, r121_5_T, r121_5_F, r121_5, r121_8, r121_9, r121_10, r121_11, r121_12_T, r121_12_F, r121_12, r121_15, r121_16, r121_19, r121_20, r121_21, r121_22, r121_23, r121_26_T, r121_26_F, r121_26, r121_29, r121_30_T, r121_30_F, r121_30, r121_33, r121_34, r121_37, r121_38, r121_41, r121_42_T, r121_42_F, r121_42, r121_45, r121_46, r121_49, r121_50, hsp, t2, r121_4_t, xAf_none, xAf_some, xu_app, Nat.reduceAdd, Nat.reduceSub, Nat.reduceEqDiff, Nat.reduceMul, reduceIte, and_self, and_true, true_and, and_false, false_and, true_implies, false_implies, implies_true, not_true_eq_false, not_false_eq_true, Int.reduceToNat, Int.reducePow, Int.reduceNeg, Int.reduceLT, Int.reduceLE, Int.reduceAdd, Int.reduceSub, Int.reduceMul, Int.reduceDiv, Int.reduceMod, Int.reduceEq, xA_1, xA_15, xA_255, xA_511, xA_65535, xA_32768]
        exact hk
      · rw [if_neg c1] at hk
        by_cases c2 : -128 ≤ e
        · simp (config := {contextual := true, maxSteps := 1000000}) (disch := omega) only [r121_0, r121_1, r121_2, r121_3, r121_4, r121_5_T, r121_5_F, r121_5, r121_8, r121_9, r121_10, r121_11, r121_12_T, r121_12_F, r121_12, r121_15, r121_16, r121_19, r121_20, r121_21, r121_22, r121_23, r121_26_T, r121_26_F, r121_26, r121_29, r121_30_T, r121_30_F, r121_30, r121_33, r121_34, r121_37, r121_38, r121_41, r121_42_T, r121_42_F, r121_42, r121_45, r121_46, r121_49, r121_50, hsp, t2, r121_4_t, xAf_none, xAf_some, xu_app, Nat.reduceAdd, Nat.reduceSub, Nat.reduceEqDiff, Nat.reduceMul, reduceIte, and_self, and_true, true_and, and_false, false_and, true_implies, false_implies, implies_true, not_true_eq_false, not_false_eq_true, Int.reduceToNat, Int.reducePow, Int.reduceNeg, Int.reduceLT, Int.reduceLE, Int.reduceAdd, Int.reduceSub, Int.reduceMul, Int.reduceDiv, Int.reduceMod, Int.reduceEq, xA_1, xA_15, xA_255, xA_511, xA_65535, xA_32768]
          exact hk
        · simp (config := {contextual := true, maxSteps := 1000000}) (disch := omega) only [r121_0, r121_1, r121_2, r121_3, r121_4, r121_5_T, r121_5_F, r121_5, r121_8, r121_9, r121_10, r121_11, r121_12_T, r121_12_F, r121_12, r121_15, r121_16, r121_19, r121_20, r121_21, r121_22, r121_23, r121_26_T, r121_26_F, r121_26, r121_29, r121_30_T, r121_30_F, r121_30, r121_33, r121_34, r121_37, r121_38, r121_41, r121_42_T, r121_42_F, r121_42, r121_45, r121_46, r121_49, r121_50, hsp, t2, r121_4_t, xAf_none, xAf_some, xu_app, Nat.reduceAdd, Nat.reduceSub, Nat.reduceEqDiff, Nat.reduceMul, reduceIte, and_self, and_true, true_and, and_false, false_and, true_implies, false_implies, implies_true, not_true_eq_false, not_false_eq_true, Int.reduceToNat, Int.reducePow, Int.reduceNeg, Int.reduceLT, Int.reduceLE, Int.reduceAdd, Int.reduceSub, Int.reduceMul, Int.reduceDiv, Int.reduceMod, Int.reduceEq, xA_1, xA_15, xA_255, xA_511, xA_65535, xA_32768]
          exact hk
  · rw [h2] at hk
    rcases hs01 with rfl | rfl
    · by_cases c1 : -256 ≤ e ∧ e < 256
      · rw [if_pos c1, if_pos ⟨rfl, c1⟩] at hk
        simp (config := {contextual := true, maxSteps := 1000000}) (disch := omega) only [r121_0, r121_1, r121_2, r121_3, r121_4, r121_5_T, r121_5_F, r121_5, r121_8, r121_9, r121_10, r121_11, r121_12_T, r121_12_F, r121_12, r121_15, r121_16, r121_19, r121_20, r121_21, r121_22, r121_23, r121_26_T, r121_26_F, r121_26, r121_29, r121_30_T, r121_30_F, r121_30, r121_33, r121_34, r121_37, r121_38, r121_41, r121_42_T, r121_42_F, r121_42, r121_45, r121_46, r121_49, r121_50, hsp, t3, r121_4_t, xAf_none, xAf_some, xu_app, Nat.reduceAdd, Nat.reduceSub, Nat.reduceEqDiff, Nat.reduceMul, reduceIte, and_self, and_true, true_and, and_false, false_and, true_implies, false_implies, implies_true, not_true_eq_false, not_false_eq_true, Int.reduceToNat, Int.reducePow, Int.reduceNeg, Int.reduceLT, Int.reduceLE, Int.reduceAdd, Int.reduceSub, Int.reduceMul, Int.reduceDiv, Int.reduceMod, Int.reduceEq, xA_1, xA_15, xA_255, xA_511, xA_65535, xA_32768]
        exact hk
      · rw [if_neg c1, if_neg (fun z => c1 z.2)] at hk
        by_cases c2 : -256 ≤ e
        · simp (config := {contextual := true, maxSteps := 1000000}) (disch := omega) only [r121_0, r121_1, r121_2, r121_3, r121_4, r121_5_T, r121_5_F, r121_5, r121_8, r121_9, r121_10, r121_11, r121_12_T, r121_12_F, r121_12, r121_15, r121_16, r121_19, r121_20, r121_21, r121_22, r121_23, r121_26_T, r121_26_F, r121_26, r121_29, r121_30_T, r121_30_F, r121_30, r121_33, r121_34, r121_37, r121_38, r121_41, r121_42_T, r121_42_F, r121_42, r121_45, r121_46, r121_49, r121_50, hsp, t3, r121_4_t, xAf_none, xAf_some, xu_app, Nat.reduceAdd, Nat.reduceSub, Nat.reduceEqDiff, Nat.reduceMul, reduceIte, and_self, and_true, true_and, and_false, false_and, true_implies, false_implies, implies_true, not_true_eq_false, not_false_eq_true, Int.reduceToNat, Int.reducePow, Int.reduceNeg, Int.reduceLT, Int.reduceLE, Int.reduceAdd, Int.reduceSub, Int.reduceMul, Int.reduceDiv, Int.reduceMod, Int.reduceEq, xA_1, xA_15, xA_255, xA_511, xA_65535, xA_32768]
          exact hk
        · simp (config := {contextual := true, maxSteps := 1000000}) (disch := omega) only [r121_0, r121_1, r121_2, r121_3, r121_4, r121_5_T, r121_5_F, r121_5, r121_8, r121_9, r121_10, r121_11, r121_12_T, r121_12_F, r121_12, r121_15, r121_16, r121_19, r121_20, r121_21, r121_22, r121_23, r121_26_T, r121_26_F, r121_26, r121_29, r121_30_T, r121_30_F, r121_30, r121_33, r121_34, r121_37, r121_38, r121_41, r121_42_T, r121_42_F, r121_42, r121_45, r121_46, r121_49, r121_50, hsp, t3, r121_4_t, xAf_none, xAf_some, xu_app, Nat.reduceAdd, Nat.reduceSub, Nat.reduceEqDiff, Nat.reduceMul, reduceIte, and_self, and_true, true_and, and_false, false_and, true_implies, false_implies, implies_true, not_true_eq_false, not_false_eq_true, Int.reduceToNat, Int.reducePow, Int.reduceNeg, Int.reduceLT, Int.reduceLE, Int.reduceAdd, Int.reduceSub, Int.reduceMul, Int.reduceDiv, Int.reduceMod, Int.reduceEq, xA_1, xA_15, xA_255, xA_511, xA_65535, xA_32768]
          exact hk
    · rw [if_neg (c := (1 : Int) = 0 ∧ _) (by omega)] at hk
      by_cases c1 : -256 ≤ e ∧ e < 256
      · rw [if_pos c1] at hk
        simp (config := {contextual := true, maxSteps := 1000000}) (disch := omega) only [r121_0, r121_1, r121_2, r121_3, r121_4, r121_5_T, r121_5_F, r121_5, r121_8, r121_9, r121_10, r121_11, r121_12_T, r121_12_F, r121_12, r121_15, r121_16, r121_19, r121_20, r121_21, r121_22, r121_23, r121_26_T, r121_26_F, r121_26, r121_29, r121_30_T, r121_30_F, r121_30, r121_33, r121_34, r121_37, r121_38, r121_41, r121_42_T, r121_42_F, r121_42, r121_45, r121_46, r121_49, r121_50, hsp, t3, r121_4_t, xAf_none, xAf_some, xu_app, Nat.reduceAdd, Nat.reduceSub, Nat.reduceEqDiff, Nat.reduceMul, reduceIte, and_self, and_true, true_and, and_false, false_and, true_implies, false_implies, implies_true, not_true_eq_false, not_false_eq_true, Int.reduceToNat, Int.reducePow, Int.reduceNeg, Int.reduceLT, Int.reduceLE, Int.reduceAdd, Int.reduceSub, Int.reduceMul, Int.reduceDiv, Int.reduceMod, Int.reduceEq, xA_1, xA_15, xA_255, xA_511, xA_65535, xA_32768]
        exact hk
      · rw [if_neg c1] at hk
        by_cases c2 : -256 ≤ e
        · simp (config := {contextual := true, maxSteps := 1000000}) (disch := omega) only [r121_0, r121_1, r121_2, r121_3, r121_4, r121_5_T, r121_5_F, r121_5, r121_8, r121_9, r121_10, r121_11, r121_12_T, r121_12_F, r121_12, r121_15, r121_16, r121_19, r121_20, r121_21, r121_22, r121_23, r121_26_T, r121_26_F, r121_26, r121_29, r121_30_T, r121_30_F, r121_30, r121_33, r121_34, r121_37, r121_38, r121_41, r121_42_T, r121_42_F, r121_42, r121_45, r121_46, r121_49, r121_50, hsp, t3, r121_4_t, xAf_none, xAf_some, xu_app, Nat.reduceAdd, Nat.reduceSub, Nat.reduceEqDiff, Nat.reduceMul, reduceIte, and_self, and_true, true_and, and_false, false_and, true_implies, false_implies, implies_true, not_true_eq_false, not_false_eq_true, Int.reduceToNat, Int.reducePow, Int.reduceNeg, Int.reduceLT, Int.reduceLE, Int.reduceAdd, Int.reduceSub, Int.reduceMul, Int.reduceDiv, Int.reduceMod, Int.reduceEq, xA_1, xA_15, xA_255, xA_511, xA_65535, xA_32768]
          exact hk
        · simp (config := {contextual := true, maxSteps := 1000000}) (disch := omega) only [r121_0, r121_1, r121_2, r121_3, r121_4, r121_5_T, r121_5_F, r121_5, r121_8, r121_9, r121_10, r121_11, r121_12_T, r121_12_F, r121_12, r121_15, r121_16, r121_19, r121_20, r121_21, r121_22, r121_23, r121_26_T, r121_26_F, r121_26, r121_29, r121_30_T, r121_30_F, r121_30, r121_33, r121_34, r121_37, r121_38, r121_41, r121_42_T, r121_42_F, r121_42, r121_45, r121_46, r121_49, r121_50, hsp, t3, r121_4_t, xAf_none, xAf_some, xu_app, Nat.reduceAdd, Nat.reduceSub, Nat.reduceEqDiff, Nat.reduceMul, reduceIte, and_self, and_true, true_and, and_false, false_and, true_implies, false_implies, implies_true, not_true_eq_false, not_false_eq_true, Int.reduceToNat, Int.reducePow, Int.reduceNeg, Int.reduceLT, Int.reduceLE, Int.reduceAdd, Int.reduceSub, Int.reduceMul, Int.reduceDiv, Int.reduceMod, Int.reduceEq, xA_1, xA_15, xA_255, xA_511, xA_65535, xA_32768]
          exact hk
set_option maxRecDepth 100000 in
theorem l_mz (hF : ∀ j, 0 ≤ F j ∧ F j ≤ 255) (hfr : 0 ≤ fr) (hfr1 : fr ≤ 1200) (hen0 : 0 ≤ en) (hen : en ≤ 1200) {b2 : Int32} {S C : Int → Int} {l1 l4 l5 : Value} (hd : 1 ≤ d) (r : Nat) : ∀ (f : Nat → Nat → Int) (p i : Nat), i + r = 12 → p + r ≤ 10000 → xN0 F fr en f a ((S, C, p), sp) →
    (∀ f', xN0 F fr en f' a ((S, C, if zr (bt F fr en) p r = r then p + r else p + zr (bt F fr en) p r + 1), sp) → xFe f a f' a → xT d 122 26 [.ref 21, l1, .int b2, .int (xI ((i + zr (bt F fr en) p r : Nat) : Int)), l4, l5] [] (hh f' a g) Q) →
    xT d 122 7 [.ref 21, l1, .int b2, .int (xI (i : Int)), l4, l5] [] (hh f a g) Q := by
  induction r with
  | zero =>
    intro f p i hi hp hW hk
    have hi' : i = 12 := by omega
    subst hi'
    rw [r122_7]
    simp (config := {contextual := true, maxSteps := 1000000}) (disch := omega) only [r122_0, r122_1, r122_4, r122_5, r122_6, r122_8, r122_10_T, r122_10_F, r122_10, r122_13, r122_14, r122_17_T, r122_17_F, r122_17, r122_20, r122_23, r122_27, r122_29_T, r122_29_F, r122_29, r122_32, r122_33, r122_34, r122_35, r122_36, r122_37, r122_40, r122_41, r122_44, r122_45, r122_47, r122_50, r122_52, r122_53, r122_55, r122_56, r122_57_T, r122_57_F, r122_57, r122_60, r122_62, r122_63, r122_64, r122_67, r122_69, r122_70, r122_71, r122_72, r122_73, r122_74, r122_75, r122_78, r122_80, r122_81, r122_83, r122_86, r122_88, xAf_none, xAf_some, xu_app, Nat.reduceAdd, Nat.reduceSub, Nat.reduceEqDiff, Nat.reduceMul, reduceIte, and_self, and_true, true_and, and_false, false_and, true_implies, false_implies, implies_true, not_true_eq_false, not_false_eq_true, Int.reduceToNat, Int.reducePow, Int.reduceNeg, Int.reduceLT, Int.reduceLE, Int.reduceAdd, Int.reduceSub, Int.reduceMul, Int.reduceDiv, Int.reduceMod, Int.reduceEq, xA_1, xA_15, xA_255, xA_511, xA_65535, xA_32768]
    exact hk _ hW (xFe.refl _ _)
  | succ r ih =>
    intro f p i hi hp hW hk
    rw [r122_7]
    simp (config := {contextual := true, maxSteps := 1000000}) (disch := omega) only [r122_0, r122_1, r122_4, r122_5, r122_6, r122_8, r122_10_T, r122_10_F, r122_10, r122_13, r122_14, r122_17_T, r122_17_F, r122_17, r122_20, r122_23, r122_27, r122_29_T, r122_29_F, r122_29, r122_32, r122_33, r122_34, r122_35, r122_36, r122_37, r122_40, r122_41, r122_44, r122_45, r122_47, r122_50, r122_52, r122_53, r122_55, r122_56, r122_57_T, r122_57_F, r122_57, r122_60, r122_62, r122_63, r122_64, r122_67, r122_69, r122_70, r122_71, r122_72, r122_73, r122_74, r122_75, r122_78, r122_80, r122_81, r122_83, r122_86, r122_88, xAf_none, xAf_some, xu_app, Nat.reduceAdd, Nat.reduceSub, Nat.reduceEqDiff, Nat.reduceMul, reduceIte, and_self, and_true, true_and, and_false, false_and, true_implies, false_implies, implies_true, not_true_eq_false, not_false_eq_true, Int.reduceToNat, Int.reducePow, Int.reduceNeg, Int.reduceLT, Int.reduceLE, Int.reduceAdd, Int.reduceSub, Int.reduceMul, Int.reduceDiv, Int.reduceMod, Int.reduceEq, xA_1, xA_15, xA_255, xA_511, xA_65535, xA_32768]
    refine p_tb hF hW.1 hW.2.1 hW.2.2.1 hW.2.2.2.1 hfr hfr1 hen0 hen (by dsimp only; omega) ?_
    dsimp only
    unfold zr at hk
    rcases bt_bd F fr en p with h0 | h1
    · rw [h0]
      simp only [h0, if_true] at hk
      simp (config := {contextual := true, maxSteps := 1000000}) (disch := omega) only [r122_0, r122_1, r122_4, r122_5, r122_6, r122_8, r122_10_T, r122_10_F, r122_10, r122_13, r122_14, r122_17_T, r122_17_F, r122_17, r122_20, r122_23, r122_27, r122_29_T, r122_29_F, r122_29, r122_32, r122_33, r122_34, r122_35, r122_36, r122_37, r122_40, r122_41, r122_44, r122_45, r122_47, r122_50, r122_52, r122_53, r122_55, r122_56, r122_57_T, r122_57_F, r122_57, r122_60, r122_62, r122_63, r122_64, r122_67, r122_69, r122_70, r122_71, r122_72, r122_73, r122_74, r122_75, r122_78, r122_80, r122_81, r122_83, r122_86, r122_88, xAf_none, xAf_some, xu_app, Nat.reduceAdd, Nat.reduceSub, Nat.reduceEqDiff, Nat.reduceMul, reduceIte, and_self, and_true, true_and, and_false, false_and, true_implies, false_implies, implies_true, not_true_eq_false, not_false_eq_true, Int.reduceToNat, Int.reducePow, Int.reduceNeg, Int.reduceLT, Int.reduceLE, Int.reduceAdd, Int.reduceSub, Int.reduceMul, Int.reduceDiv, Int.reduceMod, Int.reduceEq, xA_1, xA_15, xA_255, xA_511, xA_65535, xA_32768]
      have hnx : ((i : Int) + 1) = ((i + 1 : Nat) : Int) := by omega
      rw [hnx]
      refine ih _ (p + 1) (i + 1) (by omega) (by omega) hW.next fun f2 W2 F2 => ?_
      have e1 : i + 1 + zr (bt F fr en) (p + 1) r = i + (zr (bt F fr en) (p + 1) r + 1) := by omega
      rw [e1]
      refine hk f2 ?_ (xFe.bits.trans F2)
      by_cases hz : zr (bt F fr en) (p + 1) r = r
      · rw [if_pos hz] at W2; rw [if_pos (by omega)]
        rw [show p + (r + 1) = p + 1 + r by omega]; exact W2
      · rw [if_neg hz] at W2; rw [if_neg (by omega)]
        rw [show p + (zr (bt F fr en) (p + 1) r + 1) + 1 = p + 1 + zr (bt F fr en) (p + 1) r + 1 by omega]; exact W2
    · rw [h1]
      simp only [h1, show ¬ (1 : Int) = 0 by decide, if_false] at hk
      simp (config := {contextual := true, maxSteps := 1000000}) (disch := omega) only [r122_0, r122_1, r122_4, r122_5, r122_6, r122_8, r122_10_T, r122_10_F, r122_10, r122_13, r122_14, r122_17_T, r122_17_F, r122_17, r122_20, r122_23, r122_27, r122_29_T, r122_29_F, r122_29, r122_32, r122_33, r122_34, r122_35, r122_36, r122_37, r122_40, r122_41, r122_44, r122_45, r122_47, r122_50, r122_52, r122_53, r122_55, r122_56, r122_57_T, r122_57_F, r122_57, r122_60, r122_62, r122_63, r122_64, r122_67, r122_69, r122_70, r122_71, r122_72, r122_73, r122_74, r122_75, r122_78, r122_80, r122_81, r122_83, r122_86, r122_88, xAf_none, xAf_some, xu_app, Nat.reduceAdd, Nat.reduceSub, Nat.reduceEqDiff, Nat.reduceMul, reduceIte, and_self, and_true, true_and, and_false, false_and, true_implies, false_implies, implies_true, not_true_eq_false, not_false_eq_true, Int.reduceToNat, Int.reducePow, Int.reduceNeg, Int.reduceLT, Int.reduceLE, Int.reduceAdd, Int.reduceSub, Int.reduceMul, Int.reduceDiv, Int.reduceMod, Int.reduceEq, xA_1, xA_15, xA_255, xA_511, xA_65535, xA_32768]
      refine hk _ ?_ xFe.bits
      rw [if_neg (by omega)]; exact hW.next
set_option maxRecDepth 100000 in
theorem p_mdb (hF : ∀ j, 0 ≤ F j ∧ F j ≤ 255) (hfr : 0 ≤ fr) (hfr1 : fr ≤ 1200) (hen0 : 0 ≤ en) (hen : en ≤ 1200) (hm : m = 2 * hmC c) (hN : xN0 F fr en f a τ) (hp : τ.1.2.2 ≤ 3000) (hcx : f 21 26 = c) (c0 : 0 ≤ c) (c1 : c < 126) (hd : 3 ≤ d) (hk : ∀ f' a', xN0 F fr en f' a' (bmN (bt F fr en) τ c) → xFe f a f' a' → Q (hh f' a' g, .returned (some (.int (xI (bmO (bt F fr en) τ c)))))) : xTC d 122 [.ref 21, .int (xI m)] (hh f a g) Q := by
  obtain ⟨⟨S, C, p⟩, sp⟩ := τ
  have hT := hN.2.2.2.2.2.2.1
  have hC := hN.2.2.2.2.2.2.2
  have hTc := hT c c0 c1
  have hCc := hC c
  dsimp only at hTc hCc hp
  obtain ⟨k, hlow⟩ : ∃ k, low (S c) (C c) = k := ⟨_, rfl⟩
  have hk8 : k ≤ 8 := by rw [← hlow]; exact low_le _ _
  have hgb := bgot_bd (bt_bd F fr en) (S, C, p) c
  obtain ⟨x, hx⟩ : ∃ x, bgot (bt F fr en) (S, C, p) c = x := ⟨_, rfl⟩
  rw [hx] at hgb
  have hzl := zr_le (bt F fr en) 12 p
  obtain ⟨zz, hzz⟩ : ∃ zz, zr (bt F fr en) p 12 = zz := ⟨_, rfl⟩
  rw [hzz] at hzl
  have hlow' := hlow
  rw [← hTc.1, ← hTc.2] at hlow'
  have q1 : 1 ≤ a 29 (f 21 26) ∧ a 29 (f 21 26) ≤ 15 := by rw [hcx, hTc.2]; omega
  have q2 : 0 ≤ a 28 (f 21 26) ∧ a 28 (f 21 26) ≤ 256 * a 29 (f 21 26) := by rw [hcx, hTc.1, hTc.2]; omega
  have q0 : 0 ≤ f 21 26 ∧ f 21 26 < 126 := by omega
  have hend : ∀ (f1 : Nat → Nat → Int) (l2 : Value) (z : Int), xN0 F fr en f1 a ((S, C, bpos (bt F fr en) (S, C, p) c), sp) → xFe f a f1 a → xT d 122 50 [.ref 21, .int (xI m), l2, .int (xI z), .null, .null] [.int (xI x)] (hh f1 a g) Q := fun f1 l2 z N1 F1 => by
    have hcx1 : f1 21 26 = c := by rw [F1.2.1 26 (by decide) (by decide) (by decide) (by decide) (by decide) (by decide)]; exact hcx
    have key : ∀ o, unz x = o → xTC (d - 1) 121 [.ref 21, .int (xI o), .int (xI m)] (hh f1 a g) (xAf d 122 75 [.ref 21, .int (xI m), l2, .int (xI z), .int (xI x), .null] [] Q) := fun o ho => by
      have hob : -100000 ≤ o ∧ o ≤ 100000 := by rw [← ho]; unfold unz; split <;> omega
      refine p_sound hm hob.1 hob.2 N1.2.2.2.2.1 N1.2.2.2.2.2.1 ?_
      dsimp only
      have hsb := snd1_bd c o
      simp (config := {contextual := true, maxSteps := 1000000}) (disch := omega) only [r122_0, r122_1, r122_4, r122_5, r122_6, r122_8, r122_10_T, r122_10_F, r122_10, r122_13, r122_14, r122_17_T, r122_17_F, r122_17, r122_20, r122_23, r122_26, r122_27, r122_29_T, r122_29_F, r122_29, r122_32, r122_33, r122_34, r122_35, r122_36, r122_37, r122_40, r122_41, r122_44, r122_45, r122_47, r122_50, r122_52, r122_53, r122_55, r122_56, r122_57_T, r122_57_F, r122_57, r122_60, r122_62, r122_63, r122_64, r122_67, r122_69, r122_70, r122_71, r122_72, r122_73, r122_74, r122_75, r122_78, r122_80, r122_81, r122_83, r122_86, r122_88, xAf_none, xAf_some, xu_app, Nat.reduceAdd, Nat.reduceSub, Nat.reduceEqDiff, Nat.reduceMul, reduceIte, and_self, and_true, true_and, and_false, false_and, true_implies, false_implies, implies_true, not_true_eq_false, not_false_eq_true, Int.reduceToNat, Int.reducePow, Int.reduceNeg, Int.reduceLT, Int.reduceLE, Int.reduceAdd, Int.reduceSub, Int.reduceMul, Int.reduceDiv, Int.reduceMod, Int.reduceEq, xA_1, xA_15, xA_255, xA_511, xA_65535, xA_32768]
      refine p_mlearn (σ := (S, C, 0, 0, 0)) (c := c) hcx1 N1.2.2.2.2.2.2.1 N1.2.2.2.2.2.2.2 c0 c1 hsb.1 (by omega) fun a2 T2 F2 => ?_
      simp (config := {contextual := true, maxSteps := 1000000}) (disch := omega) only [r122_0, r122_1, r122_4, r122_5, r122_6, r122_8, r122_10_T, r122_10_F, r122_10, r122_13, r122_14, r122_17_T, r122_17_F, r122_17, r122_20, r122_23, r122_26, r122_27, r122_29_T, r122_29_F, r122_29, r122_32, r122_33, r122_34, r122_35, r122_36, r122_37, r122_40, r122_41, r122_44, r122_45, r122_47, r122_50, r122_52, r122_53, r122_55, r122_56, r122_57_T, r122_57_F, r122_57, r122_60, r122_62, r122_63, r122_64, r122_67, r122_69, r122_70, r122_71, r122_72, r122_73, r122_74, r122_75, r122_78, r122_80, r122_81, r122_83, r122_86, r122_88, xAf_none, xAf_some, xu_app, Nat.reduceAdd, Nat.reduceSub, Nat.reduceEqDiff, Nat.reduceMul, reduceIte, and_self, and_true, true_and, and_false, false_and, true_implies, false_implies, implies_true, not_true_eq_false, not_false_eq_true, Int.reduceToNat, Int.reducePow, Int.reduceNeg, Int.reduceLT, Int.reduceLE, Int.reduceAdd, Int.reduceSub, Int.reduceMul, Int.reduceDiv, Int.reduceMod, Int.reduceEq, xA_1, xA_15, xA_255, xA_511, xA_65535, xA_32768]
      have hO : bmO (bt F fr en) ((S, C, p), sp) c = snd1 c o := by unfold bmO; dsimp only; rw [hx, ho]
      rw [← hO]
      refine hk _ _ ?_ (F1.trans ⟨fun i hi => xu_ne _ hi, fun k k1 k2 k3 k4 k5 k6 => by rw [xu_app, if_neg (by omega)], fun i i1 i2 i3 i4 => F2 i i1 i2⟩)
      obtain ⟨w1, w2, w3, w4, w5, w6, w7, w8⟩ := N1
      have hNN : bmN (bt F fr en) ((S, C, p), sp) c = (dL (S, C, p) c (snd1 c o) (bpos (bt F fr en) (S, C, p) c), spN c o sp) := by
        unfold bmN; rw [hO]; dsimp only; rw [hx, ho]
      rw [hNN]
      refine ⟨?_, w2, w3, w4, rfl, ?_, ?_, ?_⟩
      · rw [F2 24 (by decide) (by decide)]; exact w1
      · show spN c o sp = 0 ∨ spN c o sp = 1; unfold spN; split <;> omega
      · intro j j0 j1; exact T2 j j0 j1
      · exact bL_C w8 hsb.1 (by omega)
    by_cases hev : x % 2 = 0
    · have he : unz x = x / 2 := if_pos hev
      simp (config := {contextual := true, maxSteps := 1000000}) (disch := omega) only [r122_0, r122_1, r122_4, r122_5, r122_6, r122_8, r122_10_T, r122_10_F, r122_10, r122_13, r122_14, r122_17_T, r122_17_F, r122_17, r122_20, r122_23, r122_26, r122_27, r122_29_T, r122_29_F, r122_29, r122_32, r122_33, r122_34, r122_35, r122_36, r122_37, r122_40, r122_41, r122_44, r122_45, r122_47, r122_50, r122_52, r122_53, r122_55, r122_56, r122_57_T, r122_57_F, r122_57, r122_60, r122_62, r122_63, r122_64, r122_67, r122_69, r122_70, r122_71, r122_72, r122_73, r122_74, r122_75, r122_78, r122_80, r122_81, r122_83, r122_86, r122_88, xAf_none, xAf_some, xu_app, Nat.reduceAdd, Nat.reduceSub, Nat.reduceEqDiff, Nat.reduceMul, reduceIte, and_self, and_true, true_and, and_false, false_and, true_implies, false_implies, implies_true, not_true_eq_false, not_false_eq_true, Int.reduceToNat, Int.reducePow, Int.reduceNeg, Int.reduceLT, Int.reduceLE, Int.reduceAdd, Int.reduceSub, Int.reduceMul, Int.reduceDiv, Int.reduceMod, Int.reduceEq, xA_1, xA_15, xA_255, xA_511, xA_65535, xA_32768]
      exact key _ he
    · have he : unz x = (-(x + 1)).tdiv 2 := by
        have : unz x = -(x / 2) - 1 := if_neg hev
        rw [this, Int.neg_tdiv, Int.tdiv_eq_ediv_of_nonneg (by omega)]; omega
      simp (config := {contextual := true, maxSteps := 1000000}) (disch := omega) only [r122_0, r122_1, r122_4, r122_5, r122_6, r122_8, r122_10_T, r122_10_F, r122_10, r122_13, r122_14, r122_17_T, r122_17_F, r122_17, r122_20, r122_23, r122_26, r122_27, r122_29_T, r122_29_F, r122_29, r122_32, r122_33, r122_34, r122_35, r122_36, r122_37, r122_40, r122_41, r122_44, r122_45, r122_47, r122_50, r122_52, r122_53, r122_55, r122_56, r122_57_T, r122_57_F, r122_57, r122_60, r122_62, r122_63, r122_64, r122_67, r122_69, r122_70, r122_71, r122_72, r122_73, r122_74, r122_75, r122_78, r122_80, r122_81, r122_83, r122_86, r122_88, r122_73_t, xAf_none, xAf_some, xu_app, Nat.reduceAdd, Nat.reduceSub, Nat.reduceEqDiff, Nat.reduceMul, reduceIte, and_self, and_true, true_and, and_false, false_and, true_implies, false_implies, implies_true, not_true_eq_false, not_false_eq_true, Int.reduceToNat, Int.reducePow, Int.reduceNeg, Int.reduceLT, Int.reduceLE, Int.reduceAdd, Int.reduceSub, Int.reduceMul, Int.reduceDiv, Int.reduceMod, Int.reduceEq, xA_1, xA_15, xA_255, xA_511, xA_65535, xA_32768]
      exact key _ he
  rw [e122]
  simp (config := {contextual := true, maxSteps := 1000000}) (disch := omega) only [r122_0, r122_1, r122_4, r122_5, r122_6, r122_8, r122_10_T, r122_10_F, r122_10, r122_13, r122_14, r122_17_T, r122_17_F, r122_17, r122_20, r122_23, r122_26, r122_27, r122_29_T, r122_29_F, r122_29, r122_32, r122_33, r122_34, r122_35, r122_36, r122_37, r122_40, r122_41, r122_44, r122_45, r122_47, r122_50, r122_52, r122_53, r122_55, r122_56, r122_57_T, r122_57_F, r122_57, r122_60, r122_62, r122_63, r122_64, r122_67, r122_69, r122_70, r122_71, r122_72, r122_73, r122_74, r122_75, r122_78, r122_80, r122_81, r122_83, r122_86, r122_88, s_mlow, hcx, hlow', xAf_none, xAf_some, xu_app, Nat.reduceAdd, Nat.reduceSub, Nat.reduceEqDiff, Nat.reduceMul, reduceIte, and_self, and_true, true_and, and_false, false_and, true_implies, false_implies, implies_true, not_true_eq_false, not_false_eq_true, Int.reduceToNat, Int.reducePow, Int.reduceNeg, Int.reduceLT, Int.reduceLE, Int.reduceAdd, Int.reduceSub, Int.reduceMul, Int.reduceDiv, Int.reduceMod, Int.reduceEq, xA_1, xA_15, xA_255, xA_511, xA_65535, xA_32768]
  refine l_mz hF hfr hfr1 hen0 hen (by omega) 12 f p 0 (by omega) (by omega) hN fun f1 W1 F1 => ?_
  rw [hzz] at W1 ⊢
  rw [Nat.zero_add]
  by_cases h12 : zz = 12
  · rw [if_pos h12] at W1
    subst h12
    have hbp : bpos (bt F fr en) (S, C, p) c = p + 12 + 9 := by unfold bpos; dsimp only; rw [hzz, if_pos rfl]
    have hgx : bv (bt F fr en) (p + 12) 9 0 = x := by rw [← hx]; unfold bgot; dsimp only; rw [hzz, if_pos rfl]
    rw [hbp] at hend
    simp (config := {contextual := true, maxSteps := 1000000}) (disch := omega) only [r122_0, r122_1, r122_4, r122_5, r122_6, r122_8, r122_10_T, r122_10_F, r122_10, r122_13, r122_14, r122_17_T, r122_17_F, r122_17, r122_20, r122_23, r122_26, r122_27, r122_29_T, r122_29_F, r122_29, r122_32, r122_33, r122_34, r122_35, r122_36, r122_37, r122_40, r122_41, r122_44, r122_45, r122_47, r122_50, r122_52, r122_53, r122_55, r122_56, r122_57_T, r122_57_F, r122_57, r122_60, r122_62, r122_63, r122_64, r122_67, r122_69, r122_70, r122_71, r122_72, r122_73, r122_74, r122_75, r122_78, r122_80, r122_81, r122_83, r122_86, r122_88, xAf_none, xAf_some, xu_app, Nat.reduceAdd, Nat.reduceSub, Nat.reduceEqDiff, Nat.reduceMul, reduceIte, and_self, and_true, true_and, and_false, false_and, true_implies, false_implies, implies_true, not_true_eq_false, not_false_eq_true, Int.reduceToNat, Int.reducePow, Int.reduceNeg, Int.reduceLT, Int.reduceLE, Int.reduceAdd, Int.reduceSub, Int.reduceMul, Int.reduceDiv, Int.reduceMod, Int.reduceEq, xA_1, xA_15, xA_255, xA_511, xA_65535, xA_32768]
    refine p_tbs (k := 9) hF hfr hfr1 hen0 hen (by omega) rfl (by omega) (by omega) W1 fun f2 W2 F2 => ?_
    rw [hgx]
    simp (config := {contextual := true, maxSteps := 1000000}) (disch := omega) only [r122_0, r122_1, r122_4, r122_5, r122_6, r122_8, r122_10_T, r122_10_F, r122_10, r122_13, r122_14, r122_17_T, r122_17_F, r122_17, r122_20, r122_23, r122_26, r122_27, r122_29_T, r122_29_F, r122_29, r122_32, r122_33, r122_34, r122_35, r122_36, r122_37, r122_40, r122_41, r122_44, r122_45, r122_47, r122_52, r122_53, r122_55, r122_56, r122_57_T, r122_57_F, r122_57, r122_60, r122_62, r122_63, r122_64, r122_67, r122_69, r122_70, r122_71, r122_72, r122_73, r122_74, r122_75, r122_78, r122_80, r122_81, r122_83, r122_86, r122_88, xAf_none, xAf_some, xu_app, Nat.reduceAdd, Nat.reduceSub, Nat.reduceEqDiff, Nat.reduceMul, reduceIte, and_self, and_true, true_and, and_false, false_and, true_implies, false_implies, implies_true, not_true_eq_false, not_false_eq_true, Int.reduceToNat, Int.reducePow, Int.reduceNeg, Int.reduceLT, Int.reduceLE, Int.reduceAdd, Int.reduceSub, Int.reduceMul, Int.reduceDiv, Int.reduceMod, Int.reduceEq, xA_1, xA_15, xA_255, xA_511, xA_65535, xA_32768]
    exact hend f2 _ _ W2 (F1.trans F2)
  · rw [if_neg h12] at W1
    have hbp : bpos (bt F fr en) (S, C, p) c = p + zz + 1 + k := by unfold bpos; dsimp only; rw [hzz, if_neg h12, hlow]
    have hgx : bv (bt F fr en) (p + zz + 1) k zz = x := by rw [← hx]; unfold bgot; dsimp only; rw [hzz, if_neg h12, hlow]
    rw [hbp] at hend
    have hlt : ((zz : Nat) : Int) < 12 := by omega
    have et : ((k : Int)).toNat = k := by omega
    simp (config := {contextual := true, maxSteps := 1000000}) (disch := omega) only [r122_0, r122_1, r122_4, r122_5, r122_6, r122_8, r122_10_T, r122_10_F, r122_10, r122_13, r122_14, r122_17_T, r122_17_F, r122_17, r122_20, r122_23, r122_26, r122_27, r122_29_T, r122_29_F, r122_29, r122_32, r122_33, r122_34, r122_35, r122_36, r122_37, r122_40, r122_41, r122_44, r122_45, r122_47, r122_50, r122_52, r122_53, r122_55, r122_56, r122_57_T, r122_57_F, r122_57, r122_60, r122_62, r122_63, r122_64, r122_67, r122_69, r122_70, r122_71, r122_72, r122_73, r122_74, r122_75, r122_78, r122_80, r122_81, r122_83, r122_86, r122_88, et, xAf_none, xAf_some, xu_app, Nat.reduceAdd, Nat.reduceSub, Nat.reduceEqDiff, Nat.reduceMul, reduceIte, and_self, and_true, true_and, and_false, false_and, true_implies, false_implies, implies_true, not_true_eq_false, not_false_eq_true, Int.reduceToNat, Int.reducePow, Int.reduceNeg, Int.reduceLT, Int.reduceLE, Int.reduceAdd, Int.reduceSub, Int.reduceMul, Int.reduceDiv, Int.reduceMod, Int.reduceEq, xA_1, xA_15, xA_255, xA_511, xA_65535, xA_32768]
    refine p_tbs (k := k) hF hfr hfr1 hen0 hen (by omega) rfl (by omega) (by omega) W1 fun f2 W2 F2 => ?_
    have hvb := bv_bd (bt_bd F fr en) k (p + zz + 1) 0 (by omega)
    have hor : xO ((zz : Int) * 2 ^ k) (bv (bt F fr en) (p + zz + 1) k 0) = x := by
      rw [xO_sh (by omega) (by omega) hk8 hvb.1 (by omega), ← bv_add]; exact hgx
    simp (config := {contextual := true, maxSteps := 1000000}) (disch := omega) only [r122_0, r122_1, r122_4, r122_5, r122_6, r122_8, r122_10_T, r122_10_F, r122_10, r122_13, r122_14, r122_17_T, r122_17_F, r122_17, r122_20, r122_23, r122_26, r122_27, r122_29_T, r122_29_F, r122_29, r122_32, r122_33, r122_34, r122_35, r122_36, r122_37, r122_40, r122_41, r122_44, r122_45, r122_47, r122_52, r122_53, r122_55, r122_56, r122_57_T, r122_57_F, r122_57, r122_60, r122_62, r122_63, r122_64, r122_67, r122_69, r122_70, r122_71, r122_72, r122_73, r122_74, r122_75, r122_78, r122_80, r122_81, r122_83, r122_86, r122_88, hor, xAf_none, xAf_some, xu_app, Nat.reduceAdd, Nat.reduceSub, Nat.reduceEqDiff, Nat.reduceMul, reduceIte, and_self, and_true, true_and, and_false, false_and, true_implies, false_implies, implies_true, not_true_eq_false, not_false_eq_true, Int.reduceToNat, Int.reducePow, Int.reduceNeg, Int.reduceLT, Int.reduceLE, Int.reduceAdd, Int.reduceSub, Int.reduceMul, Int.reduceDiv, Int.reduceMod, Int.reduceEq, xA_1, xA_15, xA_255, xA_511, xA_65535, xA_32768]
    exact hend f2 _ _ W2 (F1.trans F2)
end S66
