/-! MODE 1: THE CLASS READS -/
/-- an int -/
def bm (z : Int) : Int := (z + 2147483648) % 4294967296 - 2147483648
theorem bm_bd (z : Int) : -2147483648 ≤ bm z ∧ bm z ≤ 2147483647 := by unfold bm; omega
theorem bm_id {z : Int} (h0 : -2147483648 ≤ z) (h1 : z ≤ 2147483647) : bm z = z := by unfold bm; omega
/-- the states, the range, how far above, how many bytes were taken -/
abbrev qS : Type := (Int → Int) × Int × Int × Nat
def qI (τ : qS) : Prop := 256 ≤ τ.2.1 ∧ τ.2.1 ≤ 65280 ∧ (∀ j, 15 ≤ τ.1 j ∧ τ.1 j ≤ 241) ∧ -2147483648 ≤ τ.2.2.1 ∧ τ.2.2.1 ≤ 2147483647
def rdH (τ : qS) (pl : Int) : Int := τ.2.1 * τ.1 pl / 256
def rdB (τ : qS) (pl : Int) : Int := if τ.2.1 - rdH τ pl ≤ τ.2.2.1 then 1 else 0
def rdS (s : Nat → Int) (τ : qS) (pl : Int) : qS :=
  let T := vset τ.1 pl (if rdB τ pl = 1 then τ.1 pl + (256 - τ.1 pl) / 16 else τ.1 pl - τ.1 pl / 16)
  let R := if rdB τ pl = 1 then rdH τ pl else τ.2.1 - rdH τ pl
  let A := if rdB τ pl = 1 then τ.2.2.1 - (τ.2.1 - rdH τ pl) else τ.2.2.1
  if R < 256 then (T, R * 256, bm (A * 256 + s τ.2.2.2), τ.2.2.2 + 1) else (T, R, A, τ.2.2.2)
def rdN (s : Nat → Int) (p : Int) : Nat → Nat → qS → Nat × qS
  | 0, n, τ => (n, τ)
  | k + 1, n, τ => if rdB τ (p + 1 + n) = 1 then rdN s p k (n + 1) (rdS s τ (p + 1 + n)) else (n, rdS s τ (p + 1 + n))
def rdG (s : Nat → Int) (p : Int) : Nat → Int → qS → Int × qS
  | 0, x, τ => (x, τ)
  | i + 1, x, τ => rdG s p i (x * 2 + rdB τ (p + 10 + i)) (rdS s τ (p + 10 + i))
def rdX (s : Nat → Int) (τ : qS) (c : Int) : Int × qS :=
  if rdB τ (c * 19) = 1 then (0, rdS s τ (c * 19))
  else
    let r1 := rdN s (c * 19) 8 0 (rdS s τ (c * 19))
    let r2 := rdG s (c * 19) r1.1 1 r1.2
    (if rdB r2.2 (c * 19 + 18) = 1 then -r2.1 else r2.1, rdS s r2.2 (c * 19 + 18))
theorem rdB_bd (τ : qS) (pl : Int) : rdB τ pl = 0 ∨ rdB τ pl = 1 := by unfold rdB; split <;> omega
theorem rdH_bd {τ : qS} (h : qI τ) (pl : Int) : 15 ≤ rdH τ pl ∧ rdH τ pl ≤ τ.2.1 - 15 := by
  obtain ⟨h1, h2, h3, -, -⟩ := h
  have hs := h3 pl
  have ha : 256 * 15 ≤ τ.2.1 * τ.1 pl := Int.mul_le_mul h1 hs.1 (by omega) (by omega)
  have hb : τ.2.1 * τ.1 pl ≤ τ.2.1 * 241 := Int.mul_le_mul_of_nonneg_left hs.2 (by omega)
  unfold rdH
  generalize τ.2.1 * τ.1 pl = p at ha hb
  generalize τ.2.1 = R at *
  omega
theorem rdS_I {s : Nat → Int} {τ : qS} (h : qI τ) (pl : Int) : qI (rdS s τ pl) := by
  have hh := rdH_bd h pl
  obtain ⟨h1, h2, h3, h4, h5⟩ := h
  have hT : ∀ j, 15 ≤ vset τ.1 pl (if rdB τ pl = 1 then τ.1 pl + (256 - τ.1 pl) / 16 else τ.1 pl - τ.1 pl / 16) j ∧ vset τ.1 pl (if rdB τ pl = 1 then τ.1 pl + (256 - τ.1 pl) / 16 else τ.1 pl - τ.1 pl / 16) j ≤ 241 := fun j => by
    have := h3 j; have := h3 pl
    unfold vset; split
    · split <;> omega
    · assumption
  unfold rdS
  by_cases hb : τ.2.1 - rdH τ pl ≤ τ.2.2.1
  · have hb1 : rdB τ pl = 1 := if_pos hb
    simp only [hb1, if_true] at hT ⊢
    split
    · have := bm_bd ((τ.2.2.1 - (τ.2.1 - rdH τ pl)) * 256 + s τ.2.2.2)
      refine ⟨?_, ?_, hT, ?_, ?_⟩ <;> dsimp only <;> omega
    · refine ⟨?_, ?_, hT, ?_, ?_⟩ <;> dsimp only <;> omega
  · have hb1 : rdB τ pl = 0 := if_neg hb
    simp only [hb1, show ¬ (0 : Int) = 1 by omega, if_false] at hT ⊢
    split
    · have := bm_bd (τ.2.2.1 * 256 + s τ.2.2.2)
      refine ⟨?_, ?_, hT, ?_, ?_⟩ <;> dsimp only <;> omega
    · refine ⟨?_, ?_, hT, ?_, ?_⟩ <;> dsimp only <;> omega
theorem rdS_q (s : Nat → Int) (τ : qS) (pl : Int) : (rdS s τ pl).2.2.2 ≤ τ.2.2.2 + 1 := by
  unfold rdS; dsimp only; split <;> split <;> first | exact Nat.le_refl _ | exact Nat.le_succ _
theorem rdN_q (s : Nat → Int) (p : Int) (k : Nat) : ∀ n τ, (rdN s p k n τ).1 ≤ n + k ∧ (rdN s p k n τ).2.2.2.2 ≤ τ.2.2.2 + k := by
  induction k with
  | zero => intro n τ; exact ⟨Nat.le_refl _, Nat.le_refl _⟩
  | succ k ih =>
    intro n τ
    have h1 := rdS_q s τ (p + 1 + n)
    have h2 := ih (n + 1) (rdS s τ (p + 1 + n))
    unfold rdN; split
    · omega
    · dsimp only; omega
theorem rdG_q (s : Nat → Int) (p : Int) (k : Nat) : ∀ x τ, (rdG s p k x τ).2.2.2.2 ≤ τ.2.2.2 + k := by
  induction k with
  | zero => intro x τ; exact Nat.le_refl _
  | succ k ih =>
    intro x τ
    have h1 := rdS_q s τ (p + 10 + k)
    have h2 := ih (x * 2 + rdB τ (p + 10 + k)) (rdS s τ (p + 10 + k))
    unfold rdG; omega
theorem rdG_bd (s : Nat → Int) (p : Int) (k : Nat) : ∀ x τ, 1 ≤ x → 1 ≤ (rdG s p k x τ).1 ∧ (rdG s p k x τ).1 < (x + 1) * 2 ^ k := by
  induction k with
  | zero => intro x τ hx; show 1 ≤ x ∧ x < (x + 1) * 2 ^ 0; omega
  | succ k ih =>
    intro x τ hx
    have h1 := rdB_bd τ (p + 10 + k)
    have h2 := ih (x * 2 + rdB τ (p + 10 + k)) (rdS s τ (p + 10 + k)) (by omega)
    unfold rdG
    refine ⟨h2.1, Int.lt_of_lt_of_le h2.2 ?_⟩
    rw [Int.pow_succ, ← Int.mul_assoc, Int.mul_right_comm]
    exact Int.mul_le_mul_of_nonneg_right (by omega) (by have := pow2_pos k; omega)
theorem rdX_q (s : Nat → Int) (τ : qS) (c : Int) : (rdX s τ c).2.2.2.2 ≤ τ.2.2.2 + 18 := by
  have h1 := rdS_q s τ (c * 19)
  unfold rdX; split
  · dsimp only; omega
  · dsimp only
    have h2 := rdN_q s (c * 19) 8 0 (rdS s τ (c * 19))
    have h3 := rdG_q s (c * 19) (rdN s (c * 19) 8 0 (rdS s τ (c * 19))).1 1 (rdN s (c * 19) 8 0 (rdS s τ (c * 19))).2
    have h4 := rdS_q s (rdG s (c * 19) (rdN s (c * 19) 8 0 (rdS s τ (c * 19))).1 1 (rdN s (c * 19) 8 0 (rdS s τ (c * 19))).2).2 (c * 19 + 18)
    omega
theorem rdX_bd (s : Nat → Int) (τ : qS) (c : Int) : -511 ≤ (rdX s τ c).1 ∧ (rdX s τ c).1 ≤ 511 := by
  unfold rdX; split
  · dsimp only; omega
  · dsimp only
    have h2 := rdN_q s (c * 19) 8 0 (rdS s τ (c * 19))
    have h3 := rdG_bd s (c * 19) (rdN s (c * 19) 8 0 (rdS s τ (c * 19))).1 1 (rdN s (c * 19) 8 0 (rdS s τ (c * 19))).2 (by omega)
    have h4 := pow2_le (i := (rdN s (c * 19) 8 0 (rdS s τ (c * 19))).1) (j := 8) (by omega)
    have h5 : (1 + 1 : Int) * 2 ^ (rdN s (c * 19) 8 0 (rdS s τ (c * 19))).1 ≤ 512 := by omega
    split <;> omega
/-- the coder of ranges reads -/
def xR1 (F : Int → Int) (fr en ln : Int) (f : Nat → Nat → Int) (a : Nat → Int → Int) (τ : qS) : Prop :=
  f 17 2 = 1 ∧ a 9 = F ∧ f 8 0 = ln ∧ f 8 4 = en ∧ f 8 3 = fr + (τ.2.2.2 : Nat) ∧ f 17 4 = τ.2.1 ∧ f 17 6 = τ.2.2.1 ∧ (∀ j, 0 ≤ j → j < 2394 → a 18 j = τ.1 j) ∧ qI τ
def sb (F : Int → Int) (fr en : Int) (i : Nat) : Int := sB F en (fr + i)
theorem hh_bm {f : Nat → Nat → Int} {a : Nat → Int → Int} {g : xG} {z : Int} : hh (xu f 17 6 z) a g = hh (xu f 17 6 (bm z)) a g := by
  unfold hh
  rw [← xhF_xu (f := f) (o := 17) (k := 6) (v := z) rfl, ← xhF_xu (f := f) (o := 17) (k := 6) (v := bm z) rfl, xI_mod (show z % 4294967296 = bm z % 4294967296 by unfold bm; omega)]
section S64
variable {d : Nat} {Q : xm_H × Outcome → Prop} {f : Nat → Nat → Int} {a : Nat → Int → Int} {g : xG} {x b c e p av : Int} {F : Int → Int} {fr en ln : Int} {τ : qS} {l6 l7 : Value}
theorem s_bitAbove (h0 : -2147483648 ≤ f 17 6) (h1 : f 17 6 ≤ 2147483647) (b0 : -2147483648 ≤ b) (b1 : b ≤ 2147483647) : xTC d 68 [.ref 17, .int (xI b)] (hh f a g) Q ↔ Q (hh f a g, .returned (some (.int (xI (if b ≤ f 17 6 then 1 else 0))))) := by
  rw [e68]
  by_cases hc : b ≤ f 17 6
  · rw [if_pos hc]
    simp (config := {contextual := true, maxSteps := 1000000}) (disch := omega) only [r68_0, r68_1, r68_4, r68_5_T, r68_5_F, r68_5, r68_8, r68_9, r68_12, r68_13, xAf_none, xAf_some, xu_app, Nat.reduceAdd, Nat.reduceSub, Nat.reduceEqDiff, Nat.reduceMul, reduceIte, and_self, and_true, true_and, and_false, false_and, true_implies, false_implies, implies_true, not_true_eq_false, not_false_eq_true, Int.reduceToNat, Int.reducePow, Int.reduceNeg, Int.reduceLT, Int.reduceLE, Int.reduceAdd, Int.reduceSub, Int.reduceMul, Int.reduceDiv, Int.reduceMod, Int.reduceEq, xA_1, xA_15, xA_255, xA_511, xA_65535, xA_32768]
  · rw [if_neg hc]
    simp (config := {contextual := true, maxSteps := 1000000}) (disch := omega) only [r68_0, r68_1, r68_4, r68_5_T, r68_5_F, r68_5, r68_8, r68_9, r68_12, r68_13, xAf_none, xAf_some, xu_app, Nat.reduceAdd, Nat.reduceSub, Nat.reduceEqDiff, Nat.reduceMul, reduceIte, and_self, and_true, true_and, and_false, false_and, true_implies, false_implies, implies_true, not_true_eq_false, not_false_eq_true, Int.reduceToNat, Int.reducePow, Int.reduceNeg, Int.reduceLT, Int.reduceLE, Int.reduceAdd, Int.reduceSub, Int.reduceMul, Int.reduceDiv, Int.reduceMod, Int.reduceEq, xA_1, xA_15, xA_255, xA_511, xA_65535, xA_32768]
set_option maxRecDepth 100000 in
theorem p_rrbit (hfr : 0 ≤ fr) (hfr1 : fr ≤ 1200) (hen : en ≤ ln) (hen0 : 0 ≤ en) (hln : ln ≤ 1200) (h : xR1 F fr en ln f a τ) (hq : τ.2.2.2 ≤ 10000) (x0 : 0 ≤ x) (x1 : x < 2394) (hd : 2 ≤ d) (hk : ∀ f' a', xR1 F fr en ln f' a' (rdS (sb F fr en) τ x) → xFr f a f' a' → Q (hh f' a' g, .returned (some (.int (xI (rdB τ x)))))) : xTC d 67 [.ref 17, .int (xI x), .int (xI b)] (hh f a g) Q := by
  have hI' := rdS_I (s := sb F fr en) h.2.2.2.2.2.2.2.2 x
  have hH := rdH_bd h.2.2.2.2.2.2.2.2 x
  obtain ⟨T, R, A, q⟩ := τ
  obtain ⟨h2, h9, h80, h84, h83, h4, h6, hT, hI⟩ := h
  have hs := hI.2.2.1 x
  have hTx := hT x x0 x1
  obtain ⟨hr1, hr2, -, hA0, hA1⟩ := hI
  dsimp only at h83 h4 h6 hTx hr1 hr2 hA0 hA1 hs hT hq
  have hmul : R * T x ≤ 65280 * 241 := Int.mul_le_mul hr2 hs.2 (by omega) (by omega)
  have hmul0 : 0 ≤ R * T x := Int.mul_nonneg (by omega) (by omega)
  unfold rdS at hk hI'
  unfold rdB at hk hI'
  simp only [show rdH (T, R, A, q) x = R * T x / 256 from rfl] at hk hI' hH
  obtain ⟨H, eH⟩ : ∃ H, R * T x / 256 = H := ⟨_, rfl⟩
  rw [eH] at hk hI' hH
  have hTset : ∀ (v : Int) (j : Int), 0 ≤ j → j < 2394 → xw a 18 x v 18 j = vset T x v j := fun v j j0 j1 => by
    rw [xw_app]; unfold vset
    by_cases hj : j = x
    · simp [hj]
    · simp [hj, hT j j0 j1]
  have hFr : ∀ (f' : Nat → Nat → Int) (v : Int), (∀ i, i ≠ 8 → i ≠ 17 → f' i = f i) → (∀ k, k ≠ 3 → f' 8 k = f 8 k) → xFr f a f' (xw a 18 x v) := fun f' v h1 h2 => ⟨⟨fun i i1 i2 i3 i4 => h1 i i1 i4, fun k hk => h2 k (by omega), fun i i1 i2 i3 i4 => xw_ne _ i4⟩, xw_ne _ (by decide)⟩
  rw [e67]
  by_cases hA : R - H ≤ A
  · have hbt : (if R - H ≤ f 17 6 then (1 : Int) else 0) = 1 := by rw [h6]; exact if_pos hA
    simp only [hA, if_true] at hk hI'
    by_cases hc : H < 256
    · simp only [hc, if_true] at hk hI'
      simp (config := {contextual := true, maxSteps := 1000000}) (disch := omega) only [r67_0, r67_1, r67_4, r67_5, r67_6, r67_7, r67_8, r67_11, r67_12, r67_13, r67_15, r67_16, r67_18, r67_19, r67_22_T, r67_22_F, r67_22, r67_25, r67_26, r67_27, r67_30, r67_32, r67_33, r67_36, r67_39, r67_40, r67_42, r67_44, r67_45_T, r67_45_F, r67_45, r67_48, r67_49, r67_52_T, r67_52_F, r67_52, r67_55, r67_56, r67_57, r67_60, r67_61, r67_64, r67_66, r67_67, r67_68, r67_71, r67_74, r67_75, r67_78, r67_79, r67_82, r67_83, r67_86, r67_88, r67_89, r67_92, r67_93, r67_95, r67_98, r67_99, r67_102, r67_103, r67_104, r67_107, r67_108, r67_109, r67_110, r67_111, r67_112, r67_113, r67_116, r67_117, r67_118, r67_121, r67_123, r67_124, r67_127, r67_128, r67_131, r67_132, r67_133, r67_134, r67_135, r67_136, r67_137, r67_138, r67_139, r67_142, r67_145_T, r67_145_F, r67_145, r67_148, r67_149, r67_150, r67_153, r67_156, r67_157, r67_160, r67_161, r67_164_T, r67_164_F, r67_164, r67_167, r67_168, r67_169, r67_172, r67_175, r67_176, r67_177, r67_180, r67_183, r67_184, r67_187, r67_190, r67_191, r67_194, r67_195, r67_198, r67_200, h2, h4, hTx, eH, s_bitAbove, h6, hA, xAf_none, xAf_some, xu_app, Nat.reduceAdd, Nat.reduceSub, Nat.reduceEqDiff, Nat.reduceMul, reduceIte, and_self, and_true, true_and, and_false, false_and, true_implies, false_implies, implies_true, not_true_eq_false, not_false_eq_true, Int.reduceToNat, Int.reducePow, Int.reduceNeg, Int.reduceLT, Int.reduceLE, Int.reduceAdd, Int.reduceSub, Int.reduceMul, Int.reduceDiv, Int.reduceMod, Int.reduceEq, xA_1, xA_15, xA_255, xA_511, xA_65535, xA_32768]
      refine p_take (F := F) (en := en) (ln := ln) (q := fr + q) h83 h84 h80 ?_ (by omega) (by omega) hen hen0 hln ?_
      · rw [xw_ne _ (by decide)]; exact h9
      · simp (config := {contextual := true, maxSteps := 1000000}) (disch := omega) only [r67_0, r67_1, r67_4, r67_5, r67_6, r67_7, r67_8, r67_11, r67_12, r67_13, r67_15, r67_16, r67_18, r67_19, r67_22_T, r67_22_F, r67_22, r67_25, r67_26, r67_27, r67_30, r67_32, r67_33, r67_36, r67_39, r67_40, r67_42, r67_44, r67_45_T, r67_45_F, r67_45, r67_48, r67_49, r67_52_T, r67_52_F, r67_52, r67_55, r67_56, r67_57, r67_60, r67_61, r67_64, r67_66, r67_67, r67_68, r67_71, r67_74, r67_75, r67_78, r67_79, r67_82, r67_83, r67_86, r67_88, r67_89, r67_92, r67_93, r67_95, r67_98, r67_99, r67_102, r67_103, r67_104, r67_107, r67_108, r67_109, r67_110, r67_111, r67_112, r67_113, r67_116, r67_117, r67_118, r67_121, r67_123, r67_124, r67_127, r67_128, r67_131, r67_132, r67_133, r67_134, r67_135, r67_136, r67_137, r67_138, r67_139, r67_142, r67_145_T, r67_145_F, r67_145, r67_148, r67_149, r67_150, r67_153, r67_156, r67_157, r67_160, r67_161, r67_164_T, r67_164_F, r67_164, r67_167, r67_168, r67_169, r67_172, r67_175, r67_176, r67_177, r67_180, r67_183, r67_184, r67_187, r67_190, r67_191, r67_194, r67_195, r67_198, r67_200, xAf_none, xAf_some, xu_app, Nat.reduceAdd, Nat.reduceSub, Nat.reduceEqDiff, Nat.reduceMul, reduceIte, and_self, and_true, true_and, and_false, false_and, true_implies, false_implies, implies_true, not_true_eq_false, not_false_eq_true, Int.reduceToNat, Int.reducePow, Int.reduceNeg, Int.reduceLT, Int.reduceLE, Int.reduceAdd, Int.reduceSub, Int.reduceMul, Int.reduceDiv, Int.reduceMod, Int.reduceEq, xA_1, xA_15, xA_255, xA_511, xA_65535, xA_32768]
        rw [hh_bm]
        refine hk _ _ ⟨h2, ?_, h80, h84, ?_, rfl, rfl, hTset _, hI'⟩ (hFr _ _ (fun i i1 i2 => ?_) (fun k hk => ?_))
        · rw [xw_ne _ (by decide)]; exact h9
        · show fr + (q : Int) + 1 = fr + ((q + 1 : Nat) : Int); omega
        · simp only [xu_ne _ i1, xu_ne _ i2]
        · simp only [xu_app]; simp [hk]
    · simp only [hc, if_false] at hk hI'
      simp (config := {contextual := true, maxSteps := 1000000}) (disch := omega) only [r67_0, r67_1, r67_4, r67_5, r67_6, r67_7, r67_8, r67_11, r67_12, r67_13, r67_15, r67_16, r67_18, r67_19, r67_22_T, r67_22_F, r67_22, r67_25, r67_26, r67_27, r67_30, r67_32, r67_33, r67_36, r67_39, r67_40, r67_42, r67_44, r67_45_T, r67_45_F, r67_45, r67_48, r67_49, r67_52_T, r67_52_F, r67_52, r67_55, r67_56, r67_57, r67_60, r67_61, r67_64, r67_66, r67_67, r67_68, r67_71, r67_74, r67_75, r67_78, r67_79, r67_82, r67_83, r67_86, r67_88, r67_89, r67_92, r67_93, r67_95, r67_98, r67_99, r67_102, r67_103, r67_104, r67_107, r67_108, r67_109, r67_110, r67_111, r67_112, r67_113, r67_116, r67_117, r67_118, r67_121, r67_123, r67_124, r67_127, r67_128, r67_131, r67_132, r67_133, r67_134, r67_135, r67_136, r67_137, r67_138, r67_139, r67_142, r67_145_T, r67_145_F, r67_145, r67_148, r67_149, r67_150, r67_153, r67_156, r67_157, r67_160, r67_161, r67_164_T, r67_164_F, r67_164, r67_167, r67_168, r67_169, r67_172, r67_175, r67_176, r67_177, r67_180, r67_183, r67_184, r67_187, r67_190, r67_191, r67_194, r67_195, r67_198, r67_200, h2, h4, hTx, eH, s_bitAbove, h6, hA, xAf_none, xAf_some, xu_app, Nat.reduceAdd, Nat.reduceSub, Nat.reduceEqDiff, Nat.reduceMul, reduceIte, and_self, and_true, true_and, and_false, false_and, true_implies, false_implies, implies_true, not_true_eq_false, not_false_eq_true, Int.reduceToNat, Int.reducePow, Int.reduceNeg, Int.reduceLT, Int.reduceLE, Int.reduceAdd, Int.reduceSub, Int.reduceMul, Int.reduceDiv, Int.reduceMod, Int.reduceEq, xA_1, xA_15, xA_255, xA_511, xA_65535, xA_32768]
      refine hk _ _ ⟨h2, ?_, h80, h84, h83, rfl, rfl, hTset _, hI'⟩ (hFr _ _ (fun i i1 i2 => ?_) (fun k hk => ?_))
      · rw [xw_ne _ (by decide)]; exact h9
      · simp only [xu_ne _ i1, xu_ne _ i2]
      · simp only [xu_app]; simp
  · simp only [hA, if_false, show ¬ (0 : Int) = 1 by omega] at hk hI'
    by_cases hc : R - H < 256
    · simp only [hc, if_true] at hk hI'
      simp (config := {contextual := true, maxSteps := 1000000}) (disch := omega) only [r67_0, r67_1, r67_4, r67_5, r67_6, r67_7, r67_8, r67_11, r67_12, r67_13, r67_15, r67_16, r67_18, r67_19, r67_22_T, r67_22_F, r67_22, r67_25, r67_26, r67_27, r67_30, r67_32, r67_33, r67_36, r67_39, r67_40, r67_42, r67_44, r67_45_T, r67_45_F, r67_45, r67_48, r67_49, r67_52_T, r67_52_F, r67_52, r67_55, r67_56, r67_57, r67_60, r67_61, r67_64, r67_66, r67_67, r67_68, r67_71, r67_74, r67_75, r67_78, r67_79, r67_82, r67_83, r67_86, r67_88, r67_89, r67_92, r67_93, r67_95, r67_98, r67_99, r67_102, r67_103, r67_104, r67_107, r67_108, r67_109, r67_110, r67_111, r67_112, r67_113, r67_116, r67_117, r67_118, r67_121, r67_123, r67_124, r67_127, r67_128, r67_131, r67_132, r67_133, r67_134, r67_135, r67_136, r67_137, r67_138, r67_139, r67_142, r67_145_T, r67_145_F, r67_145, r67_148, r67_149, r67_150, r67_153, r67_156, r67_157, r67_160, r67_161, r67_164_T, r67_164_F, r67_164, r67_167, r67_168, r67_169, r67_172, r67_175, r67_176, r67_177, r67_180, r67_183, r67_184, r67_187, r67_190, r67_191, r67_194, r67_195, r67_198, r67_200, h2, h4, hTx, eH, s_bitAbove, h6, hA, xAf_none, xAf_some, xu_app, Nat.reduceAdd, Nat.reduceSub, Nat.reduceEqDiff, Nat.reduceMul, reduceIte, and_self, and_true, true_and, and_false, false_and, true_implies, false_implies, implies_true, not_true_eq_false, not_false_eq_true, Int.reduceToNat, Int.reducePow, Int.reduceNeg, Int.reduceLT, Int.reduceLE, Int.reduceAdd, Int.reduceSub, Int.reduceMul, Int.reduceDiv, Int.reduceMod, Int.reduceEq, xA_1, xA_15, xA_255, xA_511, xA_65535, xA_32768]
      refine p_take (F := F) (en := en) (ln := ln) (q := fr + q) h83 h84 h80 ?_ (by omega) (by omega) hen hen0 hln ?_
      · rw [xw_ne _ (by decide)]; exact h9
      · simp (config := {contextual := true, maxSteps := 1000000}) (disch := omega) only [r67_0, r67_1, r67_4, r67_5, r67_6, r67_7, r67_8, r67_11, r67_12, r67_13, r67_15, r67_16, r67_18, r67_19, r67_22_T, r67_22_F, r67_22, r67_25, r67_26, r67_27, r67_30, r67_32, r67_33, r67_36, r67_39, r67_40, r67_42, r67_44, r67_45_T, r67_45_F, r67_45, r67_48, r67_49, r67_52_T, r67_52_F, r67_52, r67_55, r67_56, r67_57, r67_60, r67_61, r67_64, r67_66, r67_67, r67_68, r67_71, r67_74, r67_75, r67_78, r67_79, r67_82, r67_83, r67_86, r67_88, r67_89, r67_92, r67_93, r67_95, r67_98, r67_99, r67_102, r67_103, r67_104, r67_107, r67_108, r67_109, r67_110, r67_111, r67_112, r67_113, r67_116, r67_117, r67_118, r67_121, r67_123, r67_124, r67_127, r67_128, r67_131, r67_132, r67_133, r67_134, r67_135, r67_136, r67_137, r67_138, r67_139, r67_142, r67_145_T, r67_145_F, r67_145, r67_148, r67_149, r67_150, r67_153, r67_156, r67_157, r67_160, r67_161, r67_164_T, r67_164_F, r67_164, r67_167, r67_168, r67_169, r67_172, r67_175, r67_176, r67_177, r67_180, r67_183, r67_184, r67_187, r67_190, r67_191, r67_194, r67_195, r67_198, r67_200, xAf_none, xAf_some, xu_app, Nat.reduceAdd, Nat.reduceSub, Nat.reduceEqDiff, Nat.reduceMul, reduceIte, and_self, and_true, true_and, and_false, false_and, true_implies, false_implies, implies_true, not_true_eq_false, not_false_eq_true, Int.reduceToNat, Int.reducePow, Int.reduceNeg, Int.reduceLT, Int.reduceLE, Int.reduceAdd, Int.reduceSub, Int.reduceMul, Int.reduceDiv, Int.reduceMod, Int.reduceEq, xA_1, xA_15, xA_255, xA_511, xA_65535, xA_32768]
        rw [hh_bm]
        refine hk _ _ ⟨h2, ?_, h80, h84, ?_, rfl, rfl, hTset _, hI'⟩ (hFr _ _ (fun i i1 i2 => ?_) (fun k hk => ?_))
        · rw [xw_ne _ (by decide)]; exact h9
        · show fr + (q : Int) + 1 = fr + ((q + 1 : Nat) : Int); omega
        · simp only [xu_ne _ i1, xu_ne _ i2]
        · simp only [xu_app]; simp [hk]
    · simp only [hc, if_false] at hk hI'
      simp (config := {contextual := true, maxSteps := 1000000}) (disch := omega) only [r67_0, r67_1, r67_4, r67_5, r67_6, r67_7, r67_8, r67_11, r67_12, r67_13, r67_15, r67_16, r67_18, r67_19, r67_22_T, r67_22_F, r67_22, r67_25, r67_26, r67_27, r67_30, r67_32, r67_33, r67_36, r67_39, r67_40, r67_42, r67_44, r67_45_T, r67_45_F, r67_45, r67_48, r67_49, r67_52_T, r67_52_F, r67_52, r67_55, r67_56, r67_57, r67_60, r67_61, r67_64, r67_66, r67_67, r67_68, r67_71, r67_74, r67_75, r67_78, r67_79, r67_82, r67_83, r67_86, r67_88, r67_89, r67_92, r67_93, r67_95, r67_98, r67_99, r67_102, r67_103, r67_104, r67_107, r67_108, r67_109, r67_110, r67_111, r67_112, r67_113, r67_116, r67_117, r67_118, r67_121, r67_123, r67_124, r67_127, r67_128, r67_131, r67_132, r67_133, r67_134, r67_135, r67_136, r67_137, r67_138, r67_139, r67_142, r67_145_T, r67_145_F, r67_145, r67_148, r67_149, r67_150, r67_153, r67_156, r67_157, r67_160, r67_161, r67_164_T, r67_164_F, r67_164, r67_167, r67_168, r67_169, r67_172, r67_175, r67_176, r67_177, r67_180, r67_183, r67_184, r67_187, r67_190, r67_191, r67_194, r67_195, r67_198, r67_200, h2, h4, hTx, eH, s_bitAbove, h6, hA, xAf_none, xAf_some, xu_app, Nat.reduceAdd, Nat.reduceSub, Nat.reduceEqDiff, Nat.reduceMul, reduceIte, and_self, and_true, true_and, and_false, false_and, true_implies, false_implies, implies_true, not_true_eq_false, not_false_eq_true, Int.reduceToNat, Int.reducePow, Int.reduceNeg, Int.reduceLT, Int.reduceLE, Int.reduceAdd, Int.reduceSub, Int.reduceMul, Int.reduceDiv, Int.reduceMod, Int.reduceEq, xA_1, xA_15, xA_255, xA_511, xA_65535, xA_32768]
      refine hk _ _ ⟨h2, ?_, h80, h84, h83, rfl, h6, hTset _, hI'⟩ (hFr _ _ (fun i i1 i2 => ?_) (fun k hk => ?_))
      · rw [xw_ne _ (by decide)]; exact h9
      · simp only [xu_ne _ i1, xu_ne _ i2]
      · simp only [xu_app]; simp
end S64
