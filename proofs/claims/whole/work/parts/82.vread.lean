/-! THE CLASS READS A FILM -/
section S82
variable {d : Nat} {Q : xm_H × Outcome → Prop} {g : xG} {F : Int → Int} {ln be w h pn md sl : Int}
set_option maxRecDepth 100000 in
set_option maxHeartbeats 4000000 in
theorem p_vread {f : Nat → Nat → Int} {a : Nat → Int → Int} (hF : ∀ j, 0 ≤ F j ∧ F j ≤ 255) (hl0 : 0 ≤ ln) (hln : ln ≤ 1200) (h9 : a 9 = F) (h80 : f 8 0 = ln) (hV : ∀ j, -1000 ≤ a 13 j ∧ a 13 j ≤ 1000) (hB : ∀ j, 0 ≤ a 11 j ∧ a 11 j ≤ 255) (hd : 9 ≤ d)
    (hk : rdK F ln (fun o => 0 ≤ o → o ≤ 1200 → ∀ f' a', xFR f a f' a' → Q (hh f' a' g, .returned (some (.int (xI o)))))
      (fun w h pn md sl N T B => 1 ≤ w → w ≤ 6 → 1 ≤ h → h ≤ 6 → (pn = 1 ∨ pn = 3) → (md = 0 ∨ md = 1) → (sl = 1 ∨ sl = 2 ∨ sl = 3) → 0 ≤ N → N ≤ 3 → ∀ f' a', xFS f a f' a' → f' 2 0 = w → f' 2 1 = h → f' 2 2 = pn → f' 2 3 = N → (∀ j, 0 ≤ j → j < N → a' 3 j = T j ∧ 0 ≤ T j ∧ T j ≤ 65535 ∧ bkS F md sl w h pn (a' 4) j sl.toNat 0 (B j)) → Q (hh f' a' g, .returned (some (.int (xI (-1))))))) :
    xTC d 32 [.ref 1] (hh f a g) Q := by
  obtain ⟨hk1, hk2⟩ := hk
  rw [e32]
  simp (config := {contextual := true, maxSteps := 1000000}) (disch := omega) only [r32_0, r32_1, r32_4, r32_7, r32_8, r32_11, r32_14, r32_15, r32_17, r32_18_T, r32_18_F, r32_18, r32_21, r32_22, r32_25, r32_28_T, r32_28_F, r32_28, r32_31, r32_32, r32_35, r32_36, r32_39, r32_42, r32_45, r32_46, r32_49, r32_52, r32_53, r32_54, r32_55_T, r32_55_F, r32_55, r32_58, r32_59, r32_62, r32_63, r32_66, r32_69, r32_70, xAf_none, xAf_some, xu_app, Nat.reduceAdd, Nat.reduceSub, Nat.reduceEqDiff, Nat.reduceMul, reduceIte, and_self, and_true, true_and, and_false, false_and, true_implies, false_implies, implies_true, not_true_eq_false, not_false_eq_true, Int.reduceToNat, Int.reducePow, Int.reduceNeg, Int.reduceLT, Int.reduceLE, Int.reduceAdd, Int.reduceSub, Int.reduceMul, Int.reduceDiv, Int.reduceMod, Int.reduceEq, xA_1, xA_15, xA_255, xA_511, xA_65535, xA_32768]
  refine p_head (F := F) (ln := ln) hF h9 h80 hl0 hln (by omega) (fun hf f1 hD b0 b1 F1 => ?_) (fun hf f1 g7 g6 g8 p0 p1 p2 F1 => ?_)
  · have e80 : f1 8 0 = ln := by rw [F1.1 8 (by decide)]; exact h80
    have hDD := hD
    obtain ⟨d7, o0, o1, d60, d61⟩ := hD
    have q1 : ¬ f1 20 7 = -1 := by omega
    have q2 : -1 ≤ f1 20 7 := by omega
    have q3 : f1 20 7 ≤ 100000 := by omega
    have q6 : 0 ≤ f1 8 0 := by omega
    have q7 : f1 8 0 ≤ 1200 := by omega
    have hby : ∀ j, 0 ≤ a 9 j ∧ a 9 j ≤ 255 := fun j => by rw [h9]; exact hF j
    have htr : xTC (d - 1) 90 [.ref 20] (hh f1 a g) (xAf d 32 11 [.ref 1, .null] [] Q) := by
      rw [e90]
      simp (config := {contextual := true, maxSteps := 1000000}) (disch := omega) only [r90_0, r90_1, r90_4, r90_5, r90_8, r90_11, r90_12, r90_13, r90_16, r90_17, r90_18, r90_20, r90_21, r90_24, r90_25, r90_26, r90_29, r90_30, r90_31, r90_33, r90_34, r90_37, r90_38, r90_39, r90_41, r90_42, r90_43, r90_44, r90_45, r90_48, r90_52, r90_55_T, r90_55_F, r90_55, r90_58, r90_59, r90_60, r90_63, r90_64, r90_65, r90_68, r90_69, r90_71, r90_72, r90_73, r90_76, r90_77, r90_80, r90_82, r90_83, r90_85, r90_87, r90_88, r90_91, r90_92, r90_94, r90_96, r90_97, r90_100, r90_101, r90_104, r90_105, r90_108, r90_109, r90_112_T, r90_112_F, r90_112, r90_115, r90_116, r90_117, r90_120, r90_121, r90_122, r90_125, r90_126, r90_127, r90_130, r90_131, r90_132, r90_135, r90_138, r90_139, r90_142, r90_143_T, r90_143_F, r90_143, r90_146, r90_147, r90_150, r90_151, r90_152, r90_154, r90_157, d_enter (hF := hby), d_number (hF := hby), xAf_none, xAf_some, xu_app, Nat.reduceAdd, Nat.reduceSub, Nat.reduceEqDiff, Nat.reduceMul, reduceIte, and_self, and_true, true_and, and_false, false_and, true_implies, false_implies, implies_true, not_true_eq_false, not_false_eq_true, Int.reduceToNat, Int.reducePow, Int.reduceNeg, Int.reduceLT, Int.reduceLE, Int.reduceAdd, Int.reduceSub, Int.reduceMul, Int.reduceDiv, Int.reduceMod, Int.reduceEq, xA_1, xA_15, xA_255, xA_511, xA_65535, xA_32768]
      refine t_d50 hby q6 q7 hDD b0 b1 (by omega) (by omega) (by omega) (by omega) (by omega) (by omega) (by omega) fun f2 D2 e8 ei => ?_
      simp (config := {contextual := true, maxSteps := 1000000}) (disch := omega) only [r32_0, r32_1, r32_4, r32_7, r32_8, r32_11, r32_14, r32_15, r32_17, r32_18_T, r32_18_F, r32_18, r32_21, r32_22, r32_25, r32_28_T, r32_28_F, r32_28, r32_31, r32_32, r32_35, r32_36, r32_39, r32_42, r32_45, r32_46, r32_49, r32_52, r32_53, r32_54, r32_55_T, r32_55_F, r32_55, r32_58, r32_59, r32_62, r32_63, r32_66, r32_69, r32_70, xAf_none, xAf_some, xu_app, Nat.reduceAdd, Nat.reduceSub, Nat.reduceEqDiff, Nat.reduceMul, reduceIte, and_self, and_true, true_and, and_false, false_and, true_implies, false_implies, implies_true, not_true_eq_false, not_false_eq_true, Int.reduceToNat, Int.reducePow, Int.reduceNeg, Int.reduceLT, Int.reduceLE, Int.reduceAdd, Int.reduceSub, Int.reduceMul, Int.reduceDiv, Int.reduceMod, Int.reduceEq, xA_1, xA_15, xA_255, xA_511, xA_65535, xA_32768]
      exact l_vrd D2 (by omega) (by omega) (by rw [ei 8 (by decide)]; omega) (by rw [ei 8 (by decide)]; omega) (by omega) (by omega) (by omega) (hk1 hf o0 o1 f2 a (xFR.of20 fun i h1 _ => by rw [ei i h1, F1.1 i h1]))
    simp (config := {contextual := true, maxSteps := 1000000}) (disch := omega) only [r32_0, r32_1, r32_4, r32_7, r32_8, r32_11, r32_14, r32_15, r32_17, r32_18_T, r32_18_F, r32_18, r32_21, r32_22, r32_25, r32_28_T, r32_28_F, r32_28, r32_31, r32_32, r32_35, r32_36, r32_39, r32_42, r32_45, r32_46, r32_49, r32_52, r32_53, r32_54, r32_55_T, r32_55_F, r32_55, r32_58, r32_59, r32_62, r32_63, r32_66, r32_69, r32_70, xAf_none, xAf_some, xu_app, Nat.reduceAdd, Nat.reduceSub, Nat.reduceEqDiff, Nat.reduceMul, reduceIte, and_self, and_true, true_and, and_false, false_and, true_implies, false_implies, implies_true, not_true_eq_false, not_false_eq_true, Int.reduceToNat, Int.reducePow, Int.reduceNeg, Int.reduceLT, Int.reduceLE, Int.reduceAdd, Int.reduceSub, Int.reduceMul, Int.reduceDiv, Int.reduceMod, Int.reduceEq, xA_1, xA_15, xA_255, xA_511, xA_65535, xA_32768]
    exact htr
  · obtain ⟨be, hbe⟩ : ∃ be, (hdF F ln).2.2 = be := ⟨_, rfl⟩
    obtain ⟨pl, hpl⟩ : ∃ pl, (hdF F ln).2.1 = pl := ⟨_, rfl⟩
    rw [hbe] at g8 p1 p2
    rw [hpl] at g6 p0 p1
    obtain ⟨hk3, hk4⟩ := hk2 hf be pl hbe.symm hpl.symm
    have e80 : f1 8 0 = ln := by rw [F1.1 8 (by decide)]; exact h80
    simp (config := {contextual := true, maxSteps := 1000000}) (disch := omega) only [r32_0, r32_1, r32_4, r32_7, r32_8, r32_11, r32_14, r32_15, r32_17, r32_18_T, r32_18_F, r32_18, r32_21, r32_22, r32_25, r32_28_T, r32_28_F, r32_28, r32_31, r32_32, r32_35, r32_36, r32_39, r32_42, r32_45, r32_46, r32_49, r32_52, r32_53, r32_54, r32_55_T, r32_55_F, r32_55, r32_58, r32_59, r32_62, r32_63, r32_66, r32_69, r32_70, xAf_none, xAf_some, xu_app, Nat.reduceAdd, Nat.reduceSub, Nat.reduceEqDiff, Nat.reduceMul, reduceIte, and_self, and_true, true_and, and_false, false_and, true_implies, false_implies, implies_true, not_true_eq_false, not_false_eq_true, Int.reduceToNat, Int.reducePow, Int.reduceNeg, Int.reduceLT, Int.reduceLE, Int.reduceAdd, Int.reduceSub, Int.reduceMul, Int.reduceDiv, Int.reduceMod, Int.reduceEq, xA_1, xA_15, xA_255, xA_511, xA_65535, xA_32768]
    refine p_takeTrack (F := F) (ln := ln) (be := be) (pl := pl) hF h9 e80 hln g7 g6 g8 p0 p1 p2 (by omega) (fun hf2 f2 hD b0 b1 ei => ?_) (fun hf2 f2 g72 g62 g82 g10 g11 gw gh gpn g53 ei => ?_)
    · simp (config := {contextual := true, maxSteps := 1000000}) (disch := omega) only [r32_0, r32_1, r32_4, r32_7, r32_8, r32_11, r32_14, r32_15, r32_17, r32_18_T, r32_18_F, r32_18, r32_21, r32_22, r32_25, r32_28_T, r32_28_F, r32_28, r32_31, r32_32, r32_35, r32_36, r32_39, r32_42, r32_45, r32_46, r32_49, r32_52, r32_53, r32_54, r32_55_T, r32_55_F, r32_55, r32_58, r32_59, r32_62, r32_63, r32_66, r32_69, r32_70, xAf_none, xAf_some, xu_app, Nat.reduceAdd, Nat.reduceSub, Nat.reduceEqDiff, Nat.reduceMul, reduceIte, and_self, and_true, true_and, and_false, false_and, true_implies, false_implies, implies_true, not_true_eq_false, not_false_eq_true, Int.reduceToNat, Int.reducePow, Int.reduceNeg, Int.reduceLT, Int.reduceLE, Int.reduceAdd, Int.reduceSub, Int.reduceMul, Int.reduceDiv, Int.reduceMod, Int.reduceEq, xA_1, xA_15, xA_255, xA_511, xA_65535, xA_32768]
      have e8' : f2 8 = f 8 := by rw [ei 8 (by decide), F1.1 8 (by decide)]
      exact l_vrd hD b0 b1 (by rw [e8']; omega) (by rw [e8']; omega) (by omega) (by omega) (by omega) (hk3 hf2 hD.2.1 hD.2.2.1 f2 a (xFR.of20 fun i h1 _ => by rw [ei i h1, F1.1 i h1]))
    · obtain ⟨p2', w, h, pn, md, sl, htk⟩ : ∃ p2' w h pn md sl, tkF F be pl = (0, p2', w, h, pn, md, sl) := ⟨_, _, _, _, _, _, by rw [← hf2]⟩
      have hb := tkF_bd hF p0 p1 (by omega) htk
      rw [htk] at g62 g10 g11 gw gh gpn
      dsimp only at g62 g10 g11 gw gh gpn
      obtain ⟨b1, b2, b3, b4, b5, b6, b7, b8, b9, b10⟩ := hb
      have FR : xFR f a f2 a := xFR.of20 fun i h1 h5 => by rw [ei i h1 h5, F1.1 i h1]
      have hfm := hk4 hf2 p2' w h pn md sl htk
      simp (config := {contextual := true, maxSteps := 1000000}) (disch := omega) only [r32_0, r32_1, r32_4, r32_7, r32_8, r32_11, r32_14, r32_15, r32_17, r32_18_T, r32_18_F, r32_18, r32_21, r32_22, r32_25, r32_28_T, r32_28_F, r32_28, r32_31, r32_32, r32_35, r32_36, r32_39, r32_42, r32_45, r32_46, r32_49, r32_52, r32_53, r32_54, r32_55_T, r32_55_F, r32_55, r32_58, r32_59, r32_62, r32_63, r32_66, r32_69, r32_70, xAf_none, xAf_some, xu_app, Nat.reduceAdd, Nat.reduceSub, Nat.reduceEqDiff, Nat.reduceMul, reduceIte, and_self, and_true, true_and, and_false, false_and, true_implies, false_implies, implies_true, not_true_eq_false, not_false_eq_true, Int.reduceToNat, Int.reducePow, Int.reduceNeg, Int.reduceLT, Int.reduceLE, Int.reduceAdd, Int.reduceSub, Int.reduceMul, Int.reduceDiv, Int.reduceMod, Int.reduceEq, xA_1, xA_15, xA_255, xA_511, xA_65535, xA_32768]
      have := l_vr (d := d) (Q := Q) (g := g) (fo := f) (ao := a) hF hl0 hln p2 b8 b9 b3 b4 b5 b6 b7 hd 3 f2 a p2' (-1) 0 (fun _ => 0) (fun _ => 0) (by omega) (by omega) FR h9 (by rw [FR.2.1 0 (by omega)]; exact h80) g72 g62 g82 g10 g11 (by omega) b2 gw gh gpn g53 (by omega) (by omega) (fun _ => rfl) (fun z => absurd rfl z) hV hB b10 (fun j j0 j1 => by omega) ?_
      · exact this
      · -- the film is taken over
        have hcv : ∀ (N : Int) (T B : Int → Int), (1 ≤ w → w ≤ 6 → 1 ≤ h → h ≤ 6 → (pn = 1 ∨ pn = 3) → (md = 0 ∨ md = 1) → (sl = 1 ∨ sl = 2 ∨ sl = 3) → 0 ≤ N → N ≤ 3 → ∀ f' a', xFS f a f' a' → f' 2 0 = w → f' 2 1 = h → f' 2 2 = pn → f' 2 3 = N → (∀ j, 0 ≤ j → j < N → a' 3 j = T j ∧ 0 ≤ T j ∧ T j ≤ 65535 ∧ bkS F md sl w h pn (a' 4) j sl.toNat 0 (B j)) → Q (hh f' a' g, .returned (some (.int (xI (-1)))))) → (0 ≤ N → N ≤ 3 → ∀ f' a', xFR f a f' a' → f' 5 0 = w → f' 5 1 = h → f' 5 2 = pn → f' 5 3 = N → (∀ j, 0 ≤ j → j < N → a' 6 j = T j ∧ 0 ≤ T j ∧ T j ≤ 65535 ∧ bkS F md sl w h pn (a' 7) j sl.toNat 0 (B j)) → xT d 32 58 [.ref 1, .int (xI (-1))] [] (hh f' a' g) Q) := fun N T B hq N0 N3 f' a' F' q0 q1 q2 q3 hT => by
          simp (config := {contextual := true, maxSteps := 1000000}) (disch := omega) only [r32_0, r32_1, r32_4, r32_7, r32_8, r32_11, r32_14, r32_15, r32_17, r32_18_T, r32_18_F, r32_18, r32_21, r32_22, r32_25, r32_28_T, r32_28_F, r32_28, r32_31, r32_32, r32_35, r32_36, r32_39, r32_42, r32_45, r32_46, r32_49, r32_52, r32_53, r32_54, r32_55_T, r32_55_F, r32_55, r32_58, r32_59, r32_62, r32_63, r32_66, r32_69, r32_70, r38_0, r38_1, r38_2, r38_2_1, r38_5, r38_6, r38_6_1, r38_9, r38_10, r38_10_1, r38_13, r38_13_1, r38_16, r38_17, r38_18, r38_18_1, r38_21, r38_21_1, r38_24, r38_25, r38_25_1, r38_28, r38_29, r38_30, r38_30_1, r38_33, r38_34, r38_35, r38_35_1, r38_38, r38_38_1, r38_39, r38_39_1, r38_39_2, r38_39_3, r38_42, r38_43, r38_43_1, r38_46, r38_47, r38_48, r38_48_1, r38_51, r38_52, r38_53, r38_53_1, r38_56, r38_56_1, r38_57, r38_57_1, r38_57_2, r38_57_3, r38_60, e38, q0, q1, q2, q3, s_reshape2, xAf_none, xAf_some, xu_app, Nat.reduceAdd, Nat.reduceSub, Nat.reduceEqDiff, Nat.reduceMul, reduceIte, and_self, and_true, true_and, and_false, false_and, true_implies, false_implies, implies_true, not_true_eq_false, not_false_eq_true, Int.reduceToNat, Int.reducePow, Int.reduceNeg, Int.reduceLT, Int.reduceLE, Int.reduceAdd, Int.reduceSub, Int.reduceMul, Int.reduceDiv, Int.reduceMod, Int.reduceEq, xA_1, xA_15, xA_255, xA_511, xA_65535, xA_32768]
          refine hq b3 b4 b5 b6 b7 b8 b9 N0 N3 _ _ ⟨fun i i1 i2 i3 i4 i5 i6 i7 i8 => ?_, fun k hk => ?_, fun i i1 i2 i3 i4 i5 i6 i7 i8 i9 => ?_, fun z => ?_, fun z => ?_, fun z => ?_, fun z7 z4 => ?_⟩ rfl rfl rfl rfl (fun j j0 j1 => ?_)
          · simp only [xu_ne _ i1]; exact F'.1 i i2 i3 i4 i5 i6 i7 i8
          · simp only [xu_ne _ (show (8 : Nat) ≠ 2 by decide)]; exact F'.2.1 k hk
          · rw [xcp_ne _ i2, xcp_ne _ i1]; exact F'.2.2.1 i i3 i4 i5 i6 i7 i8 i9
          · rw [xcp_ne _ (by decide), xcp_ne _ (by decide)]; exact F'.2.2.2.1 z
          · rw [xcp_ne _ (by decide), xcp_ne _ (by decide)]; exact F'.2.2.2.2.1 z
          · rw [xcp_ne _ (by decide), xcp_ne _ (by decide)]; exact F'.2.2.2.2.2 z
          · intro j
            have h7 := F'.2.2.2.1 z7
            rw [xcp_app]; split
            · rw [xcp_ne _ (by decide)]; exact h7 _
            · rw [xcp_ne _ (by decide), F'.2.2.1 4 (by decide) (by decide) (by decide) (by decide) (by decide) (by decide) (by decide)]; exact z4 j
          · obtain ⟨m1, m2, m3, m4⟩ := hT j j0 j1
            refine ⟨?_, m2, m3, bkS_congr b9 (by omega) b6 b4 (fun j' r0 r1 => ?_) (by omega) sl.toNat 0 (B j) (by omega) (by omega) m4⟩
            · rw [xcp_ne _ (by decide), xcp_app, if_pos ⟨rfl, by omega, by omega⟩, ← m1]; congr 1; omega
            · rw [xcp_app, if_pos ⟨rfl, by omega, by omega⟩, xcp_ne _ (by decide)]; congr 1; omega
        exact fmK_mono (fun o ho => ho) (fun N T B hq => hcv N T B hq) 3 _ _ _ _ _ hfm
end S82
