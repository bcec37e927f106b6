/-! MODE 1: A BIT IS WRITTEN -/
def vset (T : Int → Int) (k v : Int) : Int → Int := fun j => if j = k then v else T j
/-- the states, the range, the number, its digits -/
abbrev rS : Type := (Int → Int) × Int × Int × Nat
def rH (σ : rS) (pl : Int) : Int := σ.2.1 * σ.1 pl / 256
def rb (σ : rS) (pl b : Int) : rS :=
  let T := vset σ.1 pl (if b = 1 then σ.1 pl + (256 - σ.1 pl) / 16 else σ.1 pl - σ.1 pl / 16)
  let R := if b = 1 then rH σ pl else σ.2.1 - rH σ pl
  let X := if b = 1 then σ.2.2.1 + (σ.2.1 - rH σ pl) else σ.2.2.1
  if R < 256 then (T, R * 256, X * 256, σ.2.2.2 + 1) else (T, R, X, σ.2.2.2)
def rI (σ : rS) : Prop := 256 ≤ σ.2.1 ∧ σ.2.1 ≤ 65280 ∧ (∀ j, 15 ≤ σ.1 j ∧ σ.1 j ≤ 241) ∧ 0 ≤ σ.2.2.1 ∧ σ.2.2.1 + σ.2.1 ≤ 256 ^ σ.2.2.2
theorem rH_bd {σ : rS} (h : rI σ) (pl : Int) : 15 ≤ rH σ pl ∧ rH σ pl ≤ σ.2.1 - 15 := by
  obtain ⟨h1, h2, h3, -, -⟩ := h
  have hs := h3 pl
  have ha : 256 * 15 ≤ σ.2.1 * σ.1 pl := Int.mul_le_mul h1 hs.1 (by omega) (by omega)
  have hb : σ.2.1 * σ.1 pl ≤ σ.2.1 * 241 := Int.mul_le_mul_of_nonneg_left hs.2 (by omega)
  unfold rH
  generalize σ.2.1 * σ.1 pl = p at ha hb
  generalize σ.2.1 = R at *
  omega
theorem rb_I {σ : rS} (h : rI σ) (pl b : Int) : rI (rb σ pl b) := by
  have hh := rH_bd h pl
  obtain ⟨h1, h2, h3, h4, h5⟩ := h
  have hT : ∀ j, 15 ≤ vset σ.1 pl (if b = 1 then σ.1 pl + (256 - σ.1 pl) / 16 else σ.1 pl - σ.1 pl / 16) j ∧ vset σ.1 pl (if b = 1 then σ.1 pl + (256 - σ.1 pl) / 16 else σ.1 pl - σ.1 pl / 16) j ≤ 241 := fun j => by
    have := h3 j; have := h3 pl
    unfold vset; split
    · split <;> omega
    · assumption
  unfold rb
  have hp : (256 : Int) ^ (σ.2.2.2 + 1) = 256 ^ σ.2.2.2 * 256 := Int.pow_succ _ _
  by_cases hb : b = 1
  · simp only [hb, if_true] at hT ⊢
    split
    · refine ⟨?_, ?_, hT, ?_, ?_⟩ <;> dsimp only <;> omega
    · refine ⟨?_, ?_, hT, ?_, ?_⟩ <;> dsimp only <;> omega
  · simp only [hb, if_false] at hT ⊢
    split
    · refine ⟨?_, ?_, hT, ?_, ?_⟩ <;> dsimp only <;> omega
    · refine ⟨?_, ?_, hT, ?_, ?_⟩ <;> dsimp only <;> omega
/-- what the coders change -/
def xFc (f : Nat → Nat → Int) (a : Nat → Int → Int) (f' : Nat → Nat → Int) (a' : Nat → Int → Int) : Prop := (∀ i, i ≠ 8 → i ≠ 10 → i ≠ 14 → i ≠ 17 → f' i = f i) ∧ (∀ k, k ≤ 2 → f' 8 k = f 8 k) ∧ (∀ i, i ≠ 11 → i ≠ 15 → i ≠ 16 → i ≠ 18 → a' i = a i)
theorem xFc.refl (f : Nat → Nat → Int) (a : Nat → Int → Int) : xFc f a f a := ⟨fun _ _ _ _ _ => rfl, fun _ _ => rfl, fun _ _ _ _ _ => rfl⟩
theorem xFc.trans {f f' f'' : Nat → Nat → Int} {a a' a'' : Nat → Int → Int} (h : xFc f a f' a') (h' : xFc f' a' f'' a'') : xFc f a f'' a'' :=
  ⟨fun i h1 h2 h3 h4 => (h'.1 i h1 h2 h3 h4).trans (h.1 i h1 h2 h3 h4), fun k hk => (h'.2.1 k hk).trans (h.2.1 k hk), fun i h1 h2 h3 h4 => (h'.2.2 i h1 h2 h3 h4).trans (h.2.2 i h1 h2 h3 h4)⟩
theorem xF10.c {f f' : Nat → Nat → Int} {a a' : Nat → Int → Int} (h : xF10 f a f' a') : xFc f a f' a' :=
  ⟨fun i _ h2 _ _ => h.1 i h2, fun k _ => by rw [h.1 8 (by decide)], fun i h1 _ _ _ => h.2.2 i h1⟩
/-- the coder of ranges writes: what it has written, and its state -/
def xW1 (f : Nat → Nat → Int) (a : Nat → Int → Int) (A : List Int) (σ : rS) : Prop :=
  xB f a (A ++ dg σ.2.2.1 σ.2.2.2) ∧ f 17 2 = 0 ∧ f 17 4 = σ.2.1 ∧ f 17 5 = min (A.length : Int) 1200 ∧ (∀ j, 0 ≤ j → j < 2394 → a 18 j = σ.1 j) ∧ rI σ
section S42
variable {d : Nat} {Q : xm_H × Outcome → Prop} {f : Nat → Nat → Int} {a : Nat → Int → Int} {g : xG} {x b : Int} {A : List Int} {σ : rS}
set_option maxRecDepth 100000 in
theorem p_rbit (h : xW1 f a A σ) (x0 : 0 ≤ x) (x1 : x < 2394) (hb : b = 0 ∨ b = 1) (hd : 2 ≤ d) (hk : ∀ f' a', xW1 f' a' A (rb σ x b) → xFc f a f' a' → Q (hh f' a' g, .returned (some (.int (xI b))))) : xTC d 67 [.ref 17, .int (xI x), .int (xI b)] (hh f a g) Q := by
  have hI' := rb_I h.2.2.2.2.2 x b
  have hH := rH_bd h.2.2.2.2.2 x
  obtain ⟨T, R, X, n⟩ := σ
  obtain ⟨hB, h2, h4, h5, hT, hI⟩ := h
  have hs := hI.2.2.1 x
  have hTx := hT x x0 x1
  obtain ⟨hr1, hr2, -, hX0, hXn⟩ := hI
  dsimp only at hB h4 hTx hr1 hr2 hX0 hXn hs hT
  have hmul : R * T x ≤ 65280 * 241 := Int.mul_le_mul hr2 hs.2 (by omega) (by omega)
  have hmul0 : 0 ≤ R * T x := Int.mul_nonneg (by omega) (by omega)
  unfold rb at hk hI'
  simp only [show rH (T, R, X, n) x = R * T x / 256 from rfl] at hk hI' hH
  obtain ⟨H, eH⟩ : ∃ H, R * T x / 256 = H := ⟨_, rfl⟩
  rw [eH] at hk hI' hH
  have hrd : f 17 2 = 0 := h2
  have hTset : ∀ (v : Int) (j : Int), 0 ≤ j → j < 2394 → xw a 18 x v 18 j = vset T x v j := fun v j j0 j1 => by
    rw [xw_app]; unfold vset
    by_cases hj : j = x
    · simp [hj]
    · simp [hj, hT j j0 j1]
  rw [e67]
  rcases hb with rfl | rfl
  · simp only [show ¬ (0 : Int) = 1 by omega, if_false] at hk hI'
    simp (config := {contextual := true, maxSteps := 1000000}) (disch := omega) only [r67_0, r67_1, r67_4, r67_5, r67_6, r67_7, r67_8, r67_11, r67_12, r67_13, r67_15, r67_16, r67_18, r67_19, r67_22_T, r67_22_F, r67_22, r67_25, r67_26, r67_27, r67_30, r67_32, r67_33, r67_36, r67_39, r67_40, r67_42, r67_44, r67_45_T, r67_45_F, r67_45, r67_48, r67_49, r67_52_T, r67_52_F, r67_52, r67_55, r67_56, r67_57, r67_60, r67_61, r67_64, r67_66, r67_67, r67_68, r67_71, r67_74, r67_75, r67_78, r67_79, r67_82, r67_83, r67_86, r67_88, r67_89, r67_92, r67_93, r67_95, r67_98, r67_99, r67_102, r67_103, r67_104, r67_107, r67_108, r67_109, r67_110, r67_111, r67_112, r67_113, r67_116, r67_117, r67_118, r67_121, r67_123, r67_124, r67_127, r67_128, r67_131, r67_132, r67_133, r67_134, r67_135, r67_136, r67_137, r67_138, r67_139, r67_142, r67_145_T, r67_145_F, r67_145, r67_148, r67_149, r67_150, r67_153, r67_156, r67_157, r67_160, r67_161, r67_164_T, r67_164_F, r67_164, r67_167, r67_168, r67_169, r67_172, r67_175, r67_176, r67_177, r67_180, r67_183, r67_184, r67_187, r67_190, r67_191, r67_194, r67_195, r67_198, r67_200, hrd, h4, hTx, eH, xAf_none, xAf_some, xu_app, Nat.reduceAdd, Nat.reduceSub, Nat.reduceEqDiff, Nat.reduceMul, reduceIte, and_self, and_true, true_and, and_false, false_and, true_implies, false_implies, implies_true, not_true_eq_false, not_false_eq_true, Int.reduceToNat, Int.reducePow, Int.reduceNeg, Int.reduceLT, Int.reduceLE, Int.reduceAdd, Int.reduceSub, Int.reduceMul, Int.reduceDiv, Int.reduceMod, Int.reduceEq, xA_1, xA_15, xA_255, xA_511, xA_65535, xA_32768]
    refine ⟨fun hc => ?_, fun hc => ?_⟩
    · rw [if_pos hc] at hk hI'
      refine p_push (hB.of rfl rfl (xw_ne _ (by decide))) (v := 0) (by omega) (by omega) fun f1 a1 B1 F1 => ?_
      simp (config := {contextual := true, maxSteps := 1000000}) (disch := omega) only [r67_0, r67_1, r67_4, r67_5, r67_6, r67_7, r67_8, r67_11, r67_12, r67_13, r67_15, r67_16, r67_18, r67_19, r67_22_T, r67_22_F, r67_22, r67_25, r67_26, r67_27, r67_30, r67_32, r67_33, r67_36, r67_39, r67_40, r67_42, r67_44, r67_45_T, r67_45_F, r67_45, r67_48, r67_49, r67_52_T, r67_52_F, r67_52, r67_55, r67_56, r67_57, r67_60, r67_61, r67_64, r67_66, r67_67, r67_68, r67_71, r67_74, r67_75, r67_78, r67_79, r67_82, r67_83, r67_86, r67_88, r67_89, r67_92, r67_93, r67_95, r67_98, r67_99, r67_102, r67_103, r67_104, r67_107, r67_108, r67_109, r67_110, r67_111, r67_112, r67_113, r67_116, r67_117, r67_118, r67_121, r67_123, r67_124, r67_127, r67_128, r67_131, r67_132, r67_133, r67_134, r67_135, r67_136, r67_137, r67_138, r67_139, r67_142, r67_145_T, r67_145_F, r67_145, r67_148, r67_149, r67_150, r67_153, r67_156, r67_157, r67_160, r67_161, r67_164_T, r67_164_F, r67_164, r67_167, r67_168, r67_169, r67_172, r67_175, r67_176, r67_177, r67_180, r67_183, r67_184, r67_187, r67_190, r67_191, r67_194, r67_195, r67_198, r67_200, xAf_none, xAf_some, xu_app, Nat.reduceAdd, Nat.reduceSub, Nat.reduceEqDiff, Nat.reduceMul, reduceIte, and_self, and_true, true_and, and_false, false_and, true_implies, false_implies, implies_true, not_true_eq_false, not_false_eq_true, Int.reduceToNat, Int.reducePow, Int.reduceNeg, Int.reduceLT, Int.reduceLE, Int.reduceAdd, Int.reduceSub, Int.reduceMul, Int.reduceDiv, Int.reduceMod, Int.reduceEq, xA_1, xA_15, xA_255, xA_511, xA_65535, xA_32768]
      refine hk _ _ ⟨?_, ?_, ?_, ?_, fun j j0 j1 => ?_, hI'⟩ ?_
      · dsimp only
        rw [show X * 256 = 256 * X + 0 by omega, dg_push _ _ _ (by omega) (by omega), ← List.append_assoc]; exact B1
      · rw [F1.1 17 (by decide)]; exact h2
      · rw [F1.1 17 (by decide)]; rfl
      · rw [F1.1 17 (by decide)]; exact h5
      · rw [F1.2.2 18 (by decide)]; exact hTset _ j j0 j1
      · refine xFc.trans (f' := xu (xu f 17 4 (R - H)) 17 4 ((R - H) * 256)) (a' := xw a 18 x (T x - T x / 16)) ⟨fun i i1 i2 i3 i4 => ?_, fun k hk => rfl, fun i i1 i2 i3 i4 => xw_ne _ i4⟩ F1.c
        rw [xu_ne _ i4, xu_ne _ i4]
    · rw [if_neg hc] at hk hI'
      refine hk _ _ ⟨hB.of rfl rfl (xw_ne _ (by decide)), h2, rfl, h5, fun j j0 j1 => hTset _ j j0 j1, hI'⟩ ⟨fun i i1 i2 i3 i4 => xu_ne _ i4, fun k hk => rfl, fun i i1 i2 i3 i4 => xw_ne _ i4⟩
  · simp only [if_true] at hk hI'
    simp (config := {contextual := true, maxSteps := 1000000}) (disch := omega) only [r67_0, r67_1, r67_4, r67_5, r67_6, r67_7, r67_8, r67_11, r67_12, r67_13, r67_15, r67_16, r67_18, r67_19, r67_22_T, r67_22_F, r67_22, r67_25, r67_26, r67_27, r67_30, r67_32, r67_33, r67_36, r67_39, r67_40, r67_42, r67_44, r67_45_T, r67_45_F, r67_45, r67_48, r67_49, r67_52_T, r67_52_F, r67_52, r67_55, r67_56, r67_57, r67_60, r67_61, r67_64, r67_66, r67_67, r67_68, r67_71, r67_74, r67_75, r67_78, r67_79, r67_82, r67_83, r67_86, r67_88, r67_89, r67_92, r67_93, r67_95, r67_98, r67_99, r67_102, r67_103, r67_104, r67_107, r67_108, r67_109, r67_110, r67_111, r67_112, r67_113, r67_116, r67_117, r67_118, r67_121, r67_123, r67_124, r67_127, r67_128, r67_131, r67_132, r67_133, r67_134, r67_135, r67_136, r67_137, r67_138, r67_139, r67_142, r67_145_T, r67_145_F, r67_145, r67_148, r67_149, r67_150, r67_153, r67_156, r67_157, r67_160, r67_161, r67_164_T, r67_164_F, r67_164, r67_167, r67_168, r67_169, r67_172, r67_175, r67_176, r67_177, r67_180, r67_183, r67_184, r67_187, r67_190, r67_191, r67_194, r67_195, r67_198, r67_200, hrd, h4, h5, hTx, eH, xAf_none, xAf_some, xu_app, Nat.reduceAdd, Nat.reduceSub, Nat.reduceEqDiff, Nat.reduceMul, reduceIte, and_self, and_true, true_and, and_false, false_and, true_implies, false_implies, implies_true, not_true_eq_false, not_false_eq_true, Int.reduceToNat, Int.reducePow, Int.reduceNeg, Int.reduceLT, Int.reduceLE, Int.reduceAdd, Int.reduceSub, Int.reduceMul, Int.reduceDiv, Int.reduceMod, Int.reduceEq, xA_1, xA_15, xA_255, xA_511, xA_65535, xA_32768]
    refine p_raise hB rfl hX0 (by omega) (by omega) (by omega) fun a1 B1 F1 => ?_
    have hT1 : a1 18 = a 18 := F1.2.2 18 (by decide)
    have hTset1 : ∀ (v : Int) (j : Int), 0 ≤ j → j < 2394 → xw a1 18 x v 18 j = vset T x v j := fun v j j0 j1 => by
      rw [xw_app, hT1, ← hTset v j j0 j1, xw_app]
    simp (config := {contextual := true, maxSteps := 1000000}) (disch := omega) only [r67_0, r67_1, r67_4, r67_5, r67_6, r67_7, r67_8, r67_11, r67_12, r67_13, r67_15, r67_16, r67_18, r67_19, r67_22_T, r67_22_F, r67_22, r67_25, r67_26, r67_27, r67_30, r67_32, r67_33, r67_36, r67_39, r67_40, r67_42, r67_44, r67_45_T, r67_45_F, r67_45, r67_48, r67_49, r67_52_T, r67_52_F, r67_52, r67_55, r67_56, r67_57, r67_60, r67_61, r67_64, r67_66, r67_67, r67_68, r67_71, r67_74, r67_75, r67_78, r67_79, r67_82, r67_83, r67_86, r67_88, r67_89, r67_92, r67_93, r67_95, r67_98, r67_99, r67_102, r67_103, r67_104, r67_107, r67_108, r67_109, r67_110, r67_111, r67_112, r67_113, r67_116, r67_117, r67_118, r67_121, r67_123, r67_124, r67_127, r67_128, r67_131, r67_132, r67_133, r67_134, r67_135, r67_136, r67_137, r67_138, r67_139, r67_142, r67_145_T, r67_145_F, r67_145, r67_148, r67_149, r67_150, r67_153, r67_156, r67_157, r67_160, r67_161, r67_164_T, r67_164_F, r67_164, r67_167, r67_168, r67_169, r67_172, r67_175, r67_176, r67_177, r67_180, r67_183, r67_184, r67_187, r67_190, r67_191, r67_194, r67_195, r67_198, r67_200, hrd, h4, h5, xAf_none, xAf_some, xu_app, Nat.reduceAdd, Nat.reduceSub, Nat.reduceEqDiff, Nat.reduceMul, reduceIte, and_self, and_true, true_and, and_false, false_and, true_implies, false_implies, implies_true, not_true_eq_false, not_false_eq_true, Int.reduceToNat, Int.reducePow, Int.reduceNeg, Int.reduceLT, Int.reduceLE, Int.reduceAdd, Int.reduceSub, Int.reduceMul, Int.reduceDiv, Int.reduceMod, Int.reduceEq, xA_1, xA_15, xA_255, xA_511, xA_65535, xA_32768]
    refine ⟨fun hc => ?_, fun hc => ?_⟩
    · rw [if_pos hc] at hk hI'
      refine p_push (B1.of rfl rfl (xw_ne _ (by decide))) (v := 0) (by omega) (by omega) fun f1 a2 B2 F2 => ?_
      simp (config := {contextual := true, maxSteps := 1000000}) (disch := omega) only [r67_0, r67_1, r67_4, r67_5, r67_6, r67_7, r67_8, r67_11, r67_12, r67_13, r67_15, r67_16, r67_18, r67_19, r67_22_T, r67_22_F, r67_22, r67_25, r67_26, r67_27, r67_30, r67_32, r67_33, r67_36, r67_39, r67_40, r67_42, r67_44, r67_45_T, r67_45_F, r67_45, r67_48, r67_49, r67_52_T, r67_52_F, r67_52, r67_55, r67_56, r67_57, r67_60, r67_61, r67_64, r67_66, r67_67, r67_68, r67_71, r67_74, r67_75, r67_78, r67_79, r67_82, r67_83, r67_86, r67_88, r67_89, r67_92, r67_93, r67_95, r67_98, r67_99, r67_102, r67_103, r67_104, r67_107, r67_108, r67_109, r67_110, r67_111, r67_112, r67_113, r67_116, r67_117, r67_118, r67_121, r67_123, r67_124, r67_127, r67_128, r67_131, r67_132, r67_133, r67_134, r67_135, r67_136, r67_137, r67_138, r67_139, r67_142, r67_145_T, r67_145_F, r67_145, r67_148, r67_149, r67_150, r67_153, r67_156, r67_157, r67_160, r67_161, r67_164_T, r67_164_F, r67_164, r67_167, r67_168, r67_169, r67_172, r67_175, r67_176, r67_177, r67_180, r67_183, r67_184, r67_187, r67_190, r67_191, r67_194, r67_195, r67_198, r67_200, xAf_none, xAf_some, xu_app, Nat.reduceAdd, Nat.reduceSub, Nat.reduceEqDiff, Nat.reduceMul, reduceIte, and_self, and_true, true_and, and_false, false_and, true_implies, false_implies, implies_true, not_true_eq_false, not_false_eq_true, Int.reduceToNat, Int.reducePow, Int.reduceNeg, Int.reduceLT, Int.reduceLE, Int.reduceAdd, Int.reduceSub, Int.reduceMul, Int.reduceDiv, Int.reduceMod, Int.reduceEq, xA_1, xA_15, xA_255, xA_511, xA_65535, xA_32768]
      refine hk _ _ ⟨?_, ?_, ?_, ?_, fun j j0 j1 => ?_, hI'⟩ ?_
      · dsimp only
        rw [show (X + (R - H)) * 256 = 256 * (X + (R - H)) + 0 by omega, dg_push _ _ _ (by omega) (by omega), ← List.append_assoc]; exact B2
      · rw [F2.1 17 (by decide)]; exact h2
      · rw [F2.1 17 (by decide)]; rfl
      · rw [F2.1 17 (by decide)]; exact h5
      · rw [F2.2.2 18 (by decide)]; exact hTset1 _ j j0 j1
      · refine F1.c.trans (xFc.trans (f' := xu (xu f 17 4 H) 17 4 (H * 256)) (a' := xw a1 18 x (T x + (256 - T x) / 16)) ⟨fun i i1 i2 i3 i4 => ?_, fun k hk => rfl, fun i i1 i2 i3 i4 => xw_ne _ i4⟩ F2.c)
        rw [xu_ne _ i4, xu_ne _ i4]
    · rw [if_neg hc] at hk hI'
      refine hk _ _ ⟨B1.of rfl rfl (xw_ne _ (by decide)), h2, rfl, h5, fun j j0 j1 => hTset1 _ j j0 j1, hI'⟩ (F1.c.trans ⟨fun i i1 i2 i3 i4 => xu_ne _ i4, fun k hk => rfl, fun i i1 i2 i3 i4 => xw_ne _ i4⟩)
end S42
