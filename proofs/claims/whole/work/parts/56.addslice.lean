/-! THE CLASS: a slice into the draft -/
/-- the bytes of a coded slice -/
def eL (md : Int) (V : Int → Int) (w y0 y1 pn : Int) : List Int :=
  if md = 0 then dg (mA bE V w y0 y1 bInit 0 pn.toNat).2.2.1 (mA bE V w y0 y1 bInit 0 pn.toNat).2.2.2.1
  else dg (mA rE V w y0 y1 rInit 0 pn.toNat).2.2.1 (mA rE V w y0 y1 rInit 0 pn.toNat).2.2.2
def lF (D : List Int) (j : Int) : Int := D.getD j.toNat 0
def crcL (D : List Int) : Int := crc (lF D) 0 65535 D.length
def slL (D : List Int) : List Int := [(D.length : Int) / 256, (D.length : Int) % 256] ++ D ++ [crcL D / 256, crcL D % 256]
theorem eL_byte {md : Int} {V : Int → Int} {w y0 y1 pn : Int} : ∀ v ∈ eL md V w y0 y1 pn, 0 ≤ v ∧ v ≤ 255 := by
  intro v hv; unfold eL at hv; split at hv <;> exact dg_byte _ _ _ hv
theorem lF_byte {D : List Int} (h : ∀ v ∈ D, 0 ≤ v ∧ v ≤ 255) (j : Int) : 0 ≤ lF D j ∧ lF D j ≤ 255 := by
  unfold lF
  by_cases hj : j.toNat < D.length
  · rw [List.getD_eq_getElem?_getD, List.getElem?_eq_getElem hj]; exact h _ (List.getElem_mem hj)
  · rw [List.getD_eq_getElem?_getD, List.getElem?_eq_none (by omega)]; decide
theorem crcL_lt {D : List Int} (h : ∀ v ∈ D, 0 ≤ v ∧ v ≤ 255) : 0 ≤ crcL D ∧ crcL D < 65536 :=
  crc_lt _ (fun j _ _ => lF_byte h j) (by omega) (by omega)
theorem slL_len (D : List Int) : (slL D).length = D.length + 4 := by unfold slL; simp
section S56
variable {d : Nat} {Q : xm_H × Outcome → Prop} {g : xG} {f : Nat → Nat → Int} {a : Nat → Int → Int} {x v : Int} {w y0 y1 pn md : Int} {B L L' : List Int}
theorem xB.full (h : xB f a L) (h1 : 1200 < L.length) (h2 : 1200 < L'.length) : xB f a L' := by
  obtain ⟨h0, -, h3, h4⟩ := h
  exact ⟨by omega, fun z => by omega, fun _ => h3 h1, h4⟩
theorem getD_set {L : List Int} {k j : Nat} {v : Int} (hk : k < L.length) : (L.set k v).getD j 0 = if j = k then v else L.getD j 0 := by
  rw [List.getD_eq_getElem?_getD, List.getD_eq_getElem?_getD, List.getElem?_set]
  by_cases h : k = j
  · subst h; simp [hk]
  · rw [if_neg h, if_neg (fun z => h z.symm)]
theorem p_putAt {k : Nat} (h : xB f a L) (hk : k < L.length) (hx : L.length ≤ 1200 → x = k) (x0 : -2147483648 ≤ x) (x1 : x ≤ 2147483647) (v0 : 0 ≤ v) (v1 : v ≤ 255) (hq : ∀ a', xB f a' (L.set k v) → xF10 f a f a' → Q (hh f a' g, .returned none)) : xTC d 53 [.ref 10, .int (xI x), .int (xI v)] (hh f a g) Q := by
  have hl := h.len
  have hP := h
  obtain ⟨h0, h1, h2, h3⟩ := h
  rw [s_put10 hl.1 hl.2 x0 x1]
  by_cases hn : L.length ≤ 1200
  · have hxk := hx hn
    refine ⟨fun _ => hq _ ⟨by rw [List.length_set]; exact h0, fun _ => ⟨(h1 hn).1, fun j hj => ?_⟩, fun z => by rw [List.length_set] at z; omega, fun j => ?_⟩ ⟨fun _ _ => rfl, fun _ _ => rfl, fun i hi => xw_ne _ hi⟩, fun z => by omega⟩
    · rw [List.length_set] at hj
      rw [xw_app, getD_set hk]
      by_cases hjk : j = k
      · rw [if_pos hjk, if_pos ⟨rfl, by omega⟩]
      · rw [if_neg hjk, if_neg (by omega)]; exact (h1 hn).2 j hj
    · rw [xw_app]; split
      · omega
      · exact h3 j
  · refine ⟨fun _ => hq _ ⟨by rw [List.length_set]; exact h0, fun z => by rw [List.length_set] at z; omega, fun _ => h2 (by omega), fun j => ?_⟩ ⟨fun _ _ => rfl, fun _ _ => rfl, fun i hi => xw_ne _ hi⟩, fun _ => hq a ⟨by rw [List.length_set]; exact h0, fun z => by rw [List.length_set] at z; omega, fun _ => h2 (by omega), h3⟩ (xF10.refl _ _)⟩
    rw [xw_app]; split
    · omega
    · exact h3 j
/-- behind the coder: the sizes and the check -/
theorem p_sliceEnd {D : List Int} (hD : ∀ v ∈ D, 0 ≤ v ∧ v ≤ 255) (hDl : D.length ≤ 1300) (h : xB f a (B ++ [0, 0] ++ D)) {l1 l2 l3 l4 : Value} {st : Int} (hst : st = min ((B.length : Int) + 2) 1200) (hd : 3 ≤ d) {co : Nat} (hk : ∀ f' a', xB f' a' (B ++ slL D) → xF10 f a f' a' → Q (hh f' a' g, .returned none)) :
    xT d 82 52 [.ref 19, l1, l2, l3, l4, .int (xI st), .ref co, .null] [] (hh f a g) Q := by
  have hl := h.len
  have hlen : (B ++ [0, 0] ++ D).length = B.length + 2 + D.length := by simp; omega
  have h0 := h.1
  rw [hlen] at h0
  have hmany : 0 ≤ f 10 0 - st := by omega
  have hm1 : f 10 0 - st ≤ 1200 := by omega
  simp (config := {contextual := true, maxSteps := 1000000}) (disch := omega) only [r82_0, r82_1, r82_4, r82_5, r82_8, r82_9, r82_12, r82_15, r82_17, r82_18_T, r82_18_F, r82_18, r82_21, r82_22, r82_25, r82_28, r82_29, r82_32, r82_34, r82_36, r82_36_1, r82_39, r82_40, r82_43, r82_45, r82_46, r82_47, r82_49, r82_52, r82_53, r82_56, r82_59, r82_61, r82_62, r82_64, r82_65, r82_68, r82_70, r82_71, r82_72, r82_74, r82_77, r82_78, r82_81, r82_82, r82_85, r82_87, r82_88, r82_89, r82_91, r82_94, r82_95, r82_98, r82_99, r82_102, r82_103, r82_106, r82_108, r82_110, r82_113, r82_116, xAf_none, xAf_some, xu_app, Nat.reduceAdd, Nat.reduceSub, Nat.reduceEqDiff, Nat.reduceMul, reduceIte, and_self, and_true, true_and, and_false, false_and, true_implies, false_implies, implies_true, not_true_eq_false, not_false_eq_true, Int.reduceToNat, Int.reducePow, Int.reduceNeg, Int.reduceLT, Int.reduceLE, Int.reduceAdd, Int.reduceSub, Int.reduceMul, Int.reduceDiv, Int.reduceMod, Int.reduceEq, xA_1, xA_15, xA_255, xA_511, xA_65535, xA_32768]
  refine p_putAt (k := B.length) h (by omega) (fun hn => by rw [hlen] at hn; omega) (by omega) (by omega) (by omega) (by omega) fun a1 B1 F1 => ?_
  simp (config := {contextual := true, maxSteps := 1000000}) (disch := omega) only [r82_0, r82_1, r82_4, r82_5, r82_8, r82_9, r82_12, r82_15, r82_17, r82_18_T, r82_18_F, r82_18, r82_21, r82_22, r82_25, r82_28, r82_29, r82_32, r82_34, r82_36, r82_36_1, r82_39, r82_40, r82_43, r82_45, r82_46, r82_47, r82_49, r82_52, r82_53, r82_56, r82_59, r82_61, r82_62, r82_64, r82_65, r82_68, r82_70, r82_71, r82_72, r82_74, r82_77, r82_78, r82_81, r82_82, r82_85, r82_87, r82_88, r82_89, r82_91, r82_94, r82_95, r82_98, r82_99, r82_102, r82_103, r82_106, r82_108, r82_110, r82_113, r82_116, xAf_none, xAf_some, xu_app, Nat.reduceAdd, Nat.reduceSub, Nat.reduceEqDiff, Nat.reduceMul, reduceIte, and_self, and_true, true_and, and_false, false_and, true_implies, false_implies, implies_true, not_true_eq_false, not_false_eq_true, Int.reduceToNat, Int.reducePow, Int.reduceNeg, Int.reduceLT, Int.reduceLE, Int.reduceAdd, Int.reduceSub, Int.reduceMul, Int.reduceDiv, Int.reduceMod, Int.reduceEq, xA_1, xA_15, xA_255, xA_511, xA_65535, xA_32768]
  refine p_putAt (k := B.length + 1) B1 (by rw [List.length_set]; omega) (fun hn => by rw [List.length_set, hlen] at hn; omega) (by omega) (by omega) (by omega) (by omega) fun a2 B2 F2 => ?_
  have hby := B2.2.2.2
  have hcb := crc_lt (f 10 0 - st).toNat (D := a2 11) (s := st) (r := 65535) (fun j _ _ => hby j) (by omega) (by omega)
  simp (config := {contextual := true, maxSteps := 1000000}) (disch := omega) only [r82_0, r82_1, r82_4, r82_5, r82_8, r82_9, r82_12, r82_15, r82_17, r82_18_T, r82_18_F, r82_18, r82_21, r82_22, r82_25, r82_28, r82_29, r82_32, r82_34, r82_36, r82_36_1, r82_39, r82_40, r82_43, r82_45, r82_46, r82_47, r82_49, r82_52, r82_53, r82_56, r82_59, r82_61, r82_62, r82_64, r82_65, r82_68, r82_70, r82_71, r82_72, r82_74, r82_77, r82_78, r82_81, r82_82, r82_85, r82_87, r82_88, r82_89, r82_91, r82_94, r82_95, r82_98, r82_99, r82_102, r82_103, r82_106, r82_108, r82_110, r82_113, r82_116, s_chk10 (hby := hby), xAf_none, xAf_some, xu_app, Nat.reduceAdd, Nat.reduceSub, Nat.reduceEqDiff, Nat.reduceMul, reduceIte, and_self, and_true, true_and, and_false, false_and, true_implies, false_implies, implies_true, not_true_eq_false, not_false_eq_true, Int.reduceToNat, Int.reducePow, Int.reduceNeg, Int.reduceLT, Int.reduceLE, Int.reduceAdd, Int.reduceSub, Int.reduceMul, Int.reduceDiv, Int.reduceMod, Int.reduceEq, xA_1, xA_15, xA_255, xA_511, xA_65535, xA_32768]
  refine p_pushBig B2 hcb.1 (by omega) (by omega) fun f3 a3 B3 F3 => ?_
  simp (config := {contextual := true, maxSteps := 1000000}) (disch := omega) only [r82_0, r82_1, r82_4, r82_5, r82_8, r82_9, r82_12, r82_15, r82_17, r82_18_T, r82_18_F, r82_18, r82_21, r82_22, r82_25, r82_28, r82_29, r82_32, r82_34, r82_36, r82_36_1, r82_39, r82_40, r82_43, r82_45, r82_46, r82_47, r82_49, r82_52, r82_53, r82_56, r82_59, r82_61, r82_62, r82_64, r82_65, r82_68, r82_70, r82_71, r82_72, r82_74, r82_77, r82_78, r82_81, r82_82, r82_85, r82_87, r82_88, r82_89, r82_91, r82_94, r82_95, r82_98, r82_99, r82_102, r82_103, r82_106, r82_108, r82_110, r82_113, r82_116, xAf_none, xAf_some, xu_app, Nat.reduceAdd, Nat.reduceSub, Nat.reduceEqDiff, Nat.reduceMul, reduceIte, and_self, and_true, true_and, and_false, false_and, true_implies, false_implies, implies_true, not_true_eq_false, not_false_eq_true, Int.reduceToNat, Int.reducePow, Int.reduceNeg, Int.reduceLT, Int.reduceLE, Int.reduceAdd, Int.reduceSub, Int.reduceMul, Int.reduceDiv, Int.reduceMod, Int.reduceEq, xA_1, xA_15, xA_255, xA_511, xA_65535, xA_32768]
  refine hk _ _ ?_ ((F1.trans F2).trans F3)
  have hlen3 : ((((B ++ [0, 0] ++ D).set B.length ((f 10 0 - st) / 256)).set (B.length + 1) ((f 10 0 - st) % 256)) ++ [crc (a2 11) st 65535 (f 10 0 - st).toNat / 256, crc (a2 11) st 65535 (f 10 0 - st).toNat % 256]).length = B.length + 2 + D.length + 2 := by
    rw [List.length_append, List.length_set, List.length_set, hlen]; rfl
  have hlen4 : (B ++ slL D).length = B.length + 2 + D.length + 2 := by rw [List.length_append, slL_len]; omega
  by_cases hfull : B.length + 2 + D.length ≤ 1200
  · have hstB : st = (B.length : Int) + 2 := by omega
    have hmD : f 10 0 - st = D.length := by omega
    have hset : ((B ++ [0, 0] ++ D).set B.length ((D.length : Int) / 256)).set (B.length + 1) ((D.length : Int) % 256) = B ++ [(D.length : Int) / 256, (D.length : Int) % 256] ++ D := by
      rw [List.append_assoc, List.append_assoc]
      rw [List.set_append_right _ _ (by omega), List.set_append_right _ _ (by omega)]
      simp
    have hcrc : crc (a2 11) st 65535 D.length = crcL D := by
      unfold crcL
      refine crc_congr D.length fun j j0 j1 => ?_
      have hb2 := B2.2.1 (by rw [List.length_set, List.length_set, hlen]; omega)
      have := hb2.2 (B.length + 2 + j.toNat) (by rw [List.length_set, List.length_set, hlen]; omega)
      rw [hmD, hset, getD_app_r (by simp)] at this
      rw [show st + j = ((B.length + 2 + j.toNat : Nat) : Int) by omega, this]
      unfold lF
      congr 1
      simp only [List.length_append, List.length_cons, List.length_nil]
      omega
    rw [hmD, hset, Int.toNat_natCast, hcrc] at B3
    have : B ++ slL D = B ++ [(D.length : Int) / 256, (D.length : Int) % 256] ++ D ++ [crcL D / 256, crcL D % 256] := by
      unfold slL; simp only [List.append_assoc]
    rw [this]; exact B3
  · exact B3.full (by omega) (by omega)
theorem eL_len {V : Int → Int} (w0 : 1 ≤ w) (w1 : w ≤ 6) (hy0 : 0 ≤ y0) (hyy : y0 ≤ y1) (hy1 : y1 ≤ 6) (p0 : 0 ≤ pn) (p1 : pn ≤ 3) : (eL md V w y0 y1 pn).length ≤ 1200 := by
  obtain ⟨N, hN⟩ : ∃ N, (y1 - y0).toNat * w.toNat = N := ⟨_, rfl⟩
  have hN36 : N ≤ 36 := by rw [← hN]; exact Nat.le_trans (Nat.mul_le_mul (show (y1 - y0).toNat ≤ 6 by omega) (show w.toNat ≤ 6 by omega)) (by decide)
  have hPN : pn.toNat * N ≤ 108 := Nat.le_trans (Nat.mul_le_mul (show pn.toNat ≤ 3 by omega) hN36) (by decide)
  unfold eL; split
  · rw [dg_len]
    have h := mOA_b (V := V) hN pn.toNat bInit 0 bInit_I (by show (0 : Int) + 21 * (pn.toNat * N : Nat) ≤ 2268; omega)
    have hb := h.2.2; have hi := h.2.1
    have hl := hi.2.2.1; have hl2 := hi.2.2.2.1
    have hb0 : bB bInit = 0 := rfl
    rw [hb0] at hb
    unfold bB at hb; omega
  · rw [dg_len]
    have h := mOA_r (V := V) hN pn.toNat rInit 0 0 rInit_I (by unfold rQ rInit; decide) (by omega)
    exact rQ_n h.2.1 h.2.2 (by omega)
set_option maxRecDepth 100000 in
theorem p_addSlice {V : Int → Int} (h : xB f a B) (hmd : md = 0 ∨ md = 1) (hV : a 13 = V) (hVb : ∀ j, -1000 ≤ V j ∧ V j ≤ 1000) (hVp : prp V w y0 y1 pn) (hw : f 2 0 = w) (hpn : f 2 2 = pn) (w0 : 1 ≤ w) (w1 : w ≤ 6) (p0 : 0 ≤ pn) (p1 : pn ≤ 3) (hy0 : 0 ≤ y0) (hyy : y0 ≤ y1) (hy1 : y1 ≤ 6) (hd : 7 ≤ d) (hk : ∀ f' a', xB f' a' (B ++ slL (eL md V w y0 y1 pn)) → a' 13 = V → xFp f a f' a' → Q (hh f' a' g, .returned none)) : xTC d 82 [.ref 19, .ref 2, .int (xI md), .int (xI y0), .int (xI y1)] (hh f a g) Q := by
  rw [e82]
  simp (config := {contextual := true, maxSteps := 1000000}) (disch := omega) only [r82_0, r82_1, r82_4, r82_5, r82_8, r82_9, r82_12, r82_15, r82_17, r82_18_T, r82_18_F, r82_18, r82_21, r82_22, r82_25, r82_28, r82_29, r82_32, r82_34, r82_36, r82_36_1, r82_39, r82_40, r82_43, r82_45, r82_46, r82_47, r82_49, r82_52, r82_53, r82_56, r82_59, r82_61, r82_62, r82_64, r82_65, r82_68, r82_70, r82_71, r82_72, r82_74, r82_77, r82_78, r82_81, r82_82, r82_85, r82_87, r82_88, r82_89, r82_91, r82_94, r82_95, r82_98, r82_99, r82_102, r82_103, r82_106, r82_108, r82_110, r82_113, r82_116, xAf_none, xAf_some, xu_app, Nat.reduceAdd, Nat.reduceSub, Nat.reduceEqDiff, Nat.reduceMul, reduceIte, and_self, and_true, true_and, and_false, false_and, true_implies, false_implies, implies_true, not_true_eq_false, not_false_eq_true, Int.reduceToNat, Int.reducePow, Int.reduceNeg, Int.reduceLT, Int.reduceLE, Int.reduceAdd, Int.reduceSub, Int.reduceMul, Int.reduceDiv, Int.reduceMod, Int.reduceEq, xA_1, xA_15, xA_255, xA_511, xA_65535, xA_32768]
  refine p_pushBig h (x := 0) (by omega) (by omega) (by omega) fun f1 a1 B1 F1 => ?_
  have hB1 := B1.len
  have hst : f1 10 0 = min ((B.length : Int) + 2) 1200 := by
    have := B1.1; rw [List.length_append] at this; simp only [List.length_cons, List.length_nil] at this; omega
  have e2 : f1 2 = f 2 := F1.1 2 (by decide)
  have eV1 : a1 13 = V := by rw [F1.2.2 13 (by decide)]; exact hV
  have hself : ∀ {T : Type} (nx : T → Int → Int → T) (τ : T), pA nx (fun _ _ e => e) w y0 y1 (τ, V) 0 pn.toNat = (mA nx V w y0 y1 τ 0 pn.toNat, V) := fun nx τ => pA_self hVp w0 hyy pn.toNat τ 0 (by omega) (by omega)
  have hll := eL_len (md := md) (V := V) w0 w1 hy0 hyy hy1 p0 p1
  rcases hmd with rfl | rfl
  · simp (config := {contextual := true, maxSteps := 1000000}) (disch := omega) only [r82_0, r82_1, r82_4, r82_5, r82_8, r82_9, r82_12, r82_15, r82_17, r82_18_T, r82_18_F, r82_18, r82_21, r82_22, r82_25, r82_28, r82_29, r82_32, r82_34, r82_36, r82_36_1, r82_39, r82_40, r82_43, r82_45, r82_46, r82_47, r82_49, r82_52, r82_53, r82_56, r82_59, r82_61, r82_62, r82_64, r82_65, r82_68, r82_70, r82_71, r82_72, r82_74, r82_77, r82_78, r82_81, r82_82, r82_85, r82_87, r82_88, r82_89, r82_91, r82_94, r82_95, r82_98, r82_99, r82_102, r82_103, r82_106, r82_108, r82_110, r82_113, r82_116, xAf_none, xAf_some, xu_app, Nat.reduceAdd, Nat.reduceSub, Nat.reduceEqDiff, Nat.reduceMul, reduceIte, and_self, and_true, true_and, and_false, false_and, true_implies, false_implies, implies_true, not_true_eq_false, not_false_eq_true, Int.reduceToNat, Int.reducePow, Int.reduceNeg, Int.reduceLT, Int.reduceLE, Int.reduceAdd, Int.reduceSub, Int.reduceMul, Int.reduceDiv, Int.reduceMod, Int.reduceEq, xA_1, xA_15, xA_255, xA_511, xA_65535, xA_32768]
    refine p_bw0 B1 (by omega) fun f2 a2 W2 F2 => ?_
    have eV2 : a2 13 = V := by rw [F2.2.2 13 (by decide) (by decide) (by decide) (by decide)]; exact eV1
    have e22 : f2 2 = f 2 := by rw [F2.1 2 (by decide) (by decide) (by decide) (by decide)]; exact e2
    simp (config := {contextual := true, maxSteps := 1000000}) (disch := omega) only [r82_0, r82_1, r82_4, r82_5, r82_8, r82_9, r82_12, r82_15, r82_17, r82_18_T, r82_18_F, r82_18, r82_21, r82_22, r82_25, r82_28, r82_29, r82_32, r82_34, r82_36, r82_36_1, r82_39, r82_40, r82_43, r82_45, r82_46, r82_47, r82_49, r82_52, r82_53, r82_56, r82_59, r82_61, r82_62, r82_64, r82_65, r82_68, r82_70, r82_71, r82_72, r82_74, r82_77, r82_78, r82_81, r82_82, r82_85, r82_87, r82_88, r82_89, r82_91, r82_94, r82_95, r82_98, r82_99, r82_102, r82_103, r82_106, r82_108, r82_110, r82_113, r82_116, xAf_none, xAf_some, xu_app, Nat.reduceAdd, Nat.reduceSub, Nat.reduceEqDiff, Nat.reduceMul, reduceIte, and_self, and_true, true_and, and_false, false_and, true_implies, false_implies, implies_true, not_true_eq_false, not_false_eq_true, Int.reduceToNat, Int.reducePow, Int.reduceNeg, Int.reduceLT, Int.reduceLE, Int.reduceAdd, Int.reduceSub, Int.reduceMul, Int.reduceDiv, Int.reduceMod, Int.reduceEq, xA_1, xA_15, xA_255, xA_511, xA_65535, xA_32768]
    refine p_pass (Inv := fun σ f a => xW0 f a (B ++ [0 / 256, 0 % 256]) σ) (s := (bInit, V)) (.inl ⟨rfl, rfl⟩) (.inl rfl) (code_w0 (by omega)) fr_w0 (by omega) (by rw [e22]; exact hw) (by rw [e22]; exact hpn) w0 w1 p0 p1 hy0 hyy hy1 W2 eV2 hVb (pOA_true _ _ _) fun f3 a3 W3 V3 F3 => ?_
    rw [hself] at W3 V3
    simp (config := {contextual := true, maxSteps := 1000000}) (disch := omega) only [r82_0, r82_1, r82_4, r82_5, r82_8, r82_9, r82_12, r82_15, r82_17, r82_18_T, r82_18_F, r82_18, r82_21, r82_22, r82_25, r82_28, r82_29, r82_32, r82_34, r82_36, r82_36_1, r82_39, r82_40, r82_43, r82_45, r82_46, r82_47, r82_49, r82_53, r82_56, r82_59, r82_61, r82_62, r82_64, r82_65, r82_68, r82_70, r82_71, r82_72, r82_74, r82_77, r82_78, r82_81, r82_82, r82_85, r82_87, r82_88, r82_89, r82_91, r82_94, r82_95, r82_98, r82_99, r82_102, r82_103, r82_106, r82_108, r82_110, r82_113, r82_116, xAf_none, xAf_some, xu_app, Nat.reduceAdd, Nat.reduceSub, Nat.reduceEqDiff, Nat.reduceMul, reduceIte, and_self, and_true, true_and, and_false, false_and, true_implies, false_implies, implies_true, not_true_eq_false, not_false_eq_true, Int.reduceToNat, Int.reducePow, Int.reduceNeg, Int.reduceLT, Int.reduceLE, Int.reduceAdd, Int.reduceSub, Int.reduceMul, Int.reduceDiv, Int.reduceMod, Int.reduceEq, xA_1, xA_15, xA_255, xA_511, xA_65535, xA_32768]
    refine p_sliceEnd (B := B) (D := eL 0 V w y0 y1 pn) eL_byte (by omega) W3.1 hst (by omega) fun f4 a4 B4 F4 => ?_
    exact hk _ _ B4 (by rw [F4.2.2 13 (by decide)]; exact V3) ((F1.c.p.trans F2.p).trans (F3.trans F4.c.p))
  · simp (config := {contextual := true, maxSteps := 1000000}) (disch := omega) only [r82_0, r82_1, r82_4, r82_5, r82_8, r82_9, r82_12, r82_15, r82_17, r82_18_T, r82_18_F, r82_18, r82_21, r82_22, r82_25, r82_28, r82_29, r82_32, r82_34, r82_36, r82_36_1, r82_39, r82_40, r82_43, r82_45, r82_46, r82_47, r82_49, r82_52, r82_53, r82_56, r82_59, r82_61, r82_62, r82_64, r82_65, r82_68, r82_70, r82_71, r82_72, r82_74, r82_77, r82_78, r82_81, r82_82, r82_85, r82_87, r82_88, r82_89, r82_91, r82_94, r82_95, r82_98, r82_99, r82_102, r82_103, r82_106, r82_108, r82_110, r82_113, r82_116, xAf_none, xAf_some, xu_app, Nat.reduceAdd, Nat.reduceSub, Nat.reduceEqDiff, Nat.reduceMul, reduceIte, and_self, and_true, true_and, and_false, false_and, true_implies, false_implies, implies_true, not_true_eq_false, not_false_eq_true, Int.reduceToNat, Int.reducePow, Int.reduceNeg, Int.reduceLT, Int.reduceLE, Int.reduceAdd, Int.reduceSub, Int.reduceMul, Int.reduceDiv, Int.reduceMod, Int.reduceEq, xA_1, xA_15, xA_255, xA_511, xA_65535, xA_32768]
    refine p_bw1 B1 (by omega) fun f2 a2 W2 F2 => ?_
    have eV2 : a2 13 = V := by rw [F2.2.2 13 (by decide) (by decide) (by decide) (by decide)]; exact eV1
    have e22 : f2 2 = f 2 := by rw [F2.1 2 (by decide) (by decide) (by decide) (by decide)]; exact e2
    simp (config := {contextual := true, maxSteps := 1000000}) (disch := omega) only [r82_0, r82_1, r82_4, r82_5, r82_8, r82_9, r82_12, r82_15, r82_17, r82_18_T, r82_18_F, r82_18, r82_21, r82_22, r82_25, r82_28, r82_29, r82_32, r82_34, r82_36, r82_36_1, r82_39, r82_40, r82_43, r82_45, r82_46, r82_47, r82_49, r82_52, r82_53, r82_56, r82_59, r82_61, r82_62, r82_64, r82_65, r82_68, r82_70, r82_71, r82_72, r82_74, r82_77, r82_78, r82_81, r82_82, r82_85, r82_87, r82_88, r82_89, r82_91, r82_94, r82_95, r82_98, r82_99, r82_102, r82_103, r82_106, r82_108, r82_110, r82_113, r82_116, xAf_none, xAf_some, xu_app, Nat.reduceAdd, Nat.reduceSub, Nat.reduceEqDiff, Nat.reduceMul, reduceIte, and_self, and_true, true_and, and_false, false_and, true_implies, false_implies, implies_true, not_true_eq_false, not_false_eq_true, Int.reduceToNat, Int.reducePow, Int.reduceNeg, Int.reduceLT, Int.reduceLE, Int.reduceAdd, Int.reduceSub, Int.reduceMul, Int.reduceDiv, Int.reduceMod, Int.reduceEq, xA_1, xA_15, xA_255, xA_511, xA_65535, xA_32768]
    refine p_pass (Inv := fun σ f a => xW1 f a (B ++ [0 / 256, 0 % 256]) σ) (s := (rInit, V)) (.inr ⟨rfl, rfl⟩) (.inl rfl) (code_w1 (by omega)) fr_w1 (by omega) (by rw [e22]; exact hw) (by rw [e22]; exact hpn) w0 w1 p0 p1 hy0 hyy hy1 W2 eV2 hVb (pOA_true _ _ _) fun f3 a3 W3 V3 F3 => ?_
    rw [hself] at W3 V3
    simp (config := {contextual := true, maxSteps := 1000000}) (disch := omega) only [r82_0, r82_1, r82_4, r82_5, r82_8, r82_9, r82_12, r82_15, r82_17, r82_18_T, r82_18_F, r82_18, r82_21, r82_22, r82_25, r82_28, r82_29, r82_32, r82_34, r82_36, r82_36_1, r82_39, r82_40, r82_43, r82_45, r82_46, r82_47, r82_49, r82_53, r82_56, r82_59, r82_61, r82_62, r82_64, r82_65, r82_68, r82_70, r82_71, r82_72, r82_74, r82_77, r82_78, r82_81, r82_82, r82_85, r82_87, r82_88, r82_89, r82_91, r82_94, r82_95, r82_98, r82_99, r82_102, r82_103, r82_106, r82_108, r82_110, r82_113, r82_116, xAf_none, xAf_some, xu_app, Nat.reduceAdd, Nat.reduceSub, Nat.reduceEqDiff, Nat.reduceMul, reduceIte, and_self, and_true, true_and, and_false, false_and, true_implies, false_implies, implies_true, not_true_eq_false, not_false_eq_true, Int.reduceToNat, Int.reducePow, Int.reduceNeg, Int.reduceLT, Int.reduceLE, Int.reduceAdd, Int.reduceSub, Int.reduceMul, Int.reduceDiv, Int.reduceMod, Int.reduceEq, xA_1, xA_15, xA_255, xA_511, xA_65535, xA_32768]
    refine p_sliceEnd (B := B) (D := eL 1 V w y0 y1 pn) eL_byte (by omega) W3.1 hst (by omega) fun f4 a4 B4 F4 => ?_
    exact hk _ _ B4 (by rw [F4.2.2 13 (by decide)]; exact V3) ((F1.c.p.trans F2.p).trans (F3.trans F4.c.p))
end S56
