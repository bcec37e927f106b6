/-! THE LAW'S OPERATIONS: type, write, read -/
def tv (vl : Int64) : Nat → (Int → Int) → Int → (Int → Int)
  | 0, A, _ => A
  | n + 1, A, l => tv vl n (fun j => if j = l then tyB vl n else A j) (l + 1)
theorem tyA_ne {o : Nat} {vl : Int64} (n : Nat) : ∀ (a : Nat → Int → Int) (l : Int) (c : Nat), c ≠ o → tyA o vl n a l c = a c := by
  induction n with
  | zero => intro a l c hc; rfl
  | succ n ih => intro a l c hc; show tyA o vl n _ _ c = a c; rw [ih _ _ c hc, xw_ne _ hc]
theorem tyA_tv {o : Nat} {vl : Int64} (n : Nat) : ∀ (a : Nat → Int → Int) (l : Int), tyA o vl n a l o = tv vl n (a o) l := by
  induction n with
  | zero => intro a l; rfl
  | succ n ih =>
    intro a l
    show tyA o vl n _ _ o = tv vl n _ _
    rw [ih]
    congr 1
    funext j; rw [xw_app]; by_cases hj : j = l <;> simp [hj]
theorem tv_byte {vl : Int64} (n : Nat) : ∀ (A : Int → Int) (l : Int), (∀ j, 0 ≤ A j ∧ A j ≤ 255) → ∀ j, 0 ≤ tv vl n A l j ∧ tv vl n A l j ≤ 255 := by
  induction n with
  | zero => intro A l h; exact h
  | succ n ih =>
    intro A l h
    refine ih _ _ (fun j => ?_)
    show 0 ≤ (if j = l then tyB vl n else A j) ∧ (if j = l then tyB vl n else A j) ≤ 255
    split
    · exact tyB_lt vl n
    · exact h j
theorem agr_vS {S S' : Int → Int} {w h pn k : Int} (hw : w ≤ 6) (hh : h ≤ 6) (hp : pn = 1 ∨ pn = 3) (hS : ∀ p y x, 0 ≤ p → p < pn → 0 ≤ y → y < h → 0 ≤ x → x < w → S (108 * k + stPl p y x) = S' (108 * k + stPl p y x)) : agr (vS S k pn) (vS S' k pn) w 0 h pn := by
  intro p y x p0 p1 ya yb x0 x1
  rcases hp with rfl | rfl
  · have h0 := hS 0 y x (by omega) (by omega) ya yb x0 x1
    have : p = 0 := by omega
    subst this
    unfold vS; rw [if_pos rfl, if_pos rfl]; exact h0
  · have q0 := hS 0 y x (by omega) (by omega) ya yb x0 x1
    have q1 := hS 1 y x (by omega) (by omega) ya yb x0 x1
    have q2 := hS 2 y x (by omega) (by omega) ya yb x0 x1
    have e0 : 108 * k + stPl 0 y x = 108 * k + (y * 6 + x) := by unfold stPl; omega
    have e1 : 108 * k + stPl 1 y x = 108 * k + 36 + (y * 6 + x) := by unfold stPl; omega
    have e2 : 108 * k + stPl 2 y x = 108 * k + 72 + (y * 6 + x) := by unfold stPl; omega
    rw [e0] at q0; rw [e1] at q1; rw [e2] at q2
    rcases (by omega : p = 0 ∨ p = 1 ∨ p = 2) with rfl | rfl | rfl
    · rw [show stPl 0 y x = y * 6 + x by unfold stPl; omega]
      have c1 : y * 6 + x < 36 := by omega
      simp only [vS, show ¬ (3 : Int) = 1 by decide, if_false, c1, if_true, q0, q1, q2]
    · rw [show stPl 1 y x = 36 + (y * 6 + x) by unfold stPl; omega]
      have c1 : ¬ 36 + (y * 6 + x) < 36 := by omega
      have c2 : 36 + (y * 6 + x) < 72 := by omega
      simp only [vS, show ¬ (3 : Int) = 1 by decide, if_false, c1, c2, if_true]
      rw [show 108 * k + 36 + (36 + (y * 6 + x)) = 108 * k + 72 + (y * 6 + x) by omega, show 108 * k + (36 + (y * 6 + x)) = 108 * k + 36 + (y * 6 + x) by omega, q1, q2]
    · rw [show stPl 2 y x = 72 + (y * 6 + x) by unfold stPl; omega]
      have c1 : ¬ 72 + (y * 6 + x) < 36 := by omega
      have c2 : ¬ 72 + (y * 6 + x) < 72 := by omega
      simp only [vS, show ¬ (3 : Int) = 1 by decide, if_false, c1, c2]
      rw [show 108 * k + (72 + (y * 6 + x) - 72) = 108 * k + (y * 6 + x) by omega, show 108 * k + (72 + (y * 6 + x) - 36) = 108 * k + 36 + (y * 6 + x) by omega, q0, q1]
theorem slsL_congr {md sl w h pn : Int} {V V' : Int → Int} (hs : sl = 1 ∨ sl = 2 ∨ sl = 3) (w0 : 1 ≤ w) (h0 : 0 ≤ h) (p0 : 0 ≤ pn) (ha : agr V V' w 0 h pn) (n : Nat) : ∀ i, 0 ≤ i → i + n = sl → slsL md sl V w h pn i n = slsL md sl V' w h pn i n := by
  induction n with
  | zero => intro i _ _; rfl
  | succ n ih =>
    intro i i0 hi
    have hr := row_bd hs i0 (by omega) h0
    unfold slsL
    rw [eL_congr (ha.sub (by omega) (by omega)) w0 (by omega) p0, ih (i + 1) (by omega) (by omega)]
theorem fiL_congr {md sl w h pn : Int} {T T' S S' : Int → Int} (hs : sl = 1 ∨ sl = 2 ∨ sl = 3) (w0 : 1 ≤ w) (w1 : w ≤ 6) (h0 : 0 ≤ h) (h1 : h ≤ 6) (hp : pn = 1 ∨ pn = 3) {N : Nat} (hT : ∀ k, 0 ≤ k → k < (N : Int) → T k = T' k) (hS : ∀ k p y x, 0 ≤ k → k < (N : Int) → 0 ≤ p → p < pn → 0 ≤ y → y < h → 0 ≤ x → x < w → S (108 * k + stPl p y x) = S' (108 * k + stPl p y x)) : fiL md sl w h pn T S N = fiL md sl w h pn T' S' N := by
  have hfr : ∀ (n : Nat) (k : Int), 0 ≤ k → k + n = N → frsL md sl w h pn T S k n = frsL md sl w h pn T' S' k n := by
    intro n
    induction n with
    | zero => intro k _ _; rfl
    | succ n ih =>
      intro k k0 hk
      unfold frsL
      rw [ih (k + 1) (by omega) (by omega)]
      congr 1
      unfold frL
      rw [hT k k0 (by omega), slsL_congr hs w0 h0 (by omega) (agr_vS w1 h1 hp (fun p y x => hS k p y x k0 (by omega))) sl.toNat 0 (by omega) (by omega)]
  unfold fiL
  rw [hfr N 0 (by omega) (by omega)]
section S91
variable {L : Nat} {i : Int} {f f' : Nat → Nat → Int} {a a' : Nat → Int → Int} {g : xG} {Q : xm_H × Outcome → Prop} {l5 l6 : Value}
set_option maxRecDepth 100000 in
theorem op11 (hI : IV L i f a g) (hL : L ≤ 3072) (i0 : 0 ≤ i) (i1 : i + 6 ≤ L) (hk : ∀ f' a' g' l5 l6, IV L (i + 6) f' a' g' → xT 11 0 938 [.ref 0, .ref 1, .ref 21, .ref 34, .int (xI i), l5, l6] [] (hh f' a' g') Q) : xT 11 0 734 [.ref 0, .ref 1, .ref 21, .ref 34, .int (xI i), l5, l6] [] (hh f a g) Q := by
  obtain ⟨hG, hR⟩ := hI
  obtain ⟨g1, g2, g3, hA⟩ := hG
  have b3 := hA (i + 3)
  have hRR := hR
  obtain ⟨hFI, hB, ⟨l7, l0, l1, l24⟩⟩ := hRR
  refine o734 i0 (by omega) (by omega) fun vl => ?_
  obtain ⟨x, hx⟩ : ∃ x, a 0 (i + 3) = x := ⟨_, rfl⟩
  rw [hx] at b3 ⊢
  rw [L_type (by omega) (by omega) (by omega) (by omega) (by omega) l0 l1]
  refine ⟨fun hc => ⟨_, _, _, 0, rfl, by omega, by omega, tyA_ne _ _ _ _ (by decide), rfl, ?_⟩, fun hc => ⟨_, _, _, 1, rfl, by omega, by omega, rfl, rfl, ?_⟩, fun hc => ⟨_, _, _, 2, rfl, by omega, by omega, rfl, rfl, ?_⟩⟩
  · obtain ⟨a1, ha1⟩ : ∃ a1, tyA 9 vl x.toNat a (f 8 0) = a1 := ⟨_, rfl⟩
    have e1 : ∀ c, c ≠ 9 → a1 c = a c := fun c hc => by rw [← ha1]; exact tyA_ne _ _ _ _ hc
    have e9 : a1 9 = tv vl x.toNat (a 9) (f 8 0) := by rw [← ha1]; exact tyA_tv _ _ _
    rw [ha1]
    have hl7 : xu f 8 0 (f 8 0 + x) 21 7 = f 8 0 := l7
    rw [M_type (f := xu f 8 0 (f 8 0 + x)) (by omega) (by omega) (by omega) (by rw [hl7]; exact l0) (by rw [hl7]; exact l1), hl7]
    refine ⟨fun _ => ⟨_, _, _, _, rfl, rfl, fun _ => by rw [gl_get], fun l5 l6 => hk _ _ _ _ _ ?_⟩, fun z => absurd hc.1 z, fun z => absurd hc.2 z.2⟩
    obtain ⟨a2, ha2⟩ : ∃ a2, tyA 24 vl x.toNat a1 (f 8 0) = a2 := ⟨_, rfl⟩
    have e2 : ∀ c, c ≠ 24 → a2 c = a1 c := fun c hc => by rw [← ha2]; exact tyA_ne _ _ _ _ hc
    have e24 : a2 24 = tv vl x.toNat (a 9) (f 8 0) := by rw [← ha2, tyA_tv, e1 24 (by decide), l24]
    rw [ha2]
    have e3 : ∀ c, c ≠ 9 → c ≠ 24 → a2 c = a c := fun c h1 h2 => (e2 c h2).trans (e1 c h1)
    have e29 : a2 9 = tv vl x.toNat (a 9) (f 8 0) := (e2 9 (by decide)).trans e9
    refine ⟨GB.l ⟨g1, g2, g3, hA⟩ (e3 0 (by decide) (by decide)), hFI.of (fun k _ => rfl) (fun k k1 k2 => by rw [xu_app, if_neg (by omega), xu_app, if_neg (by omega)]; rfl) (e3 3 (by decide) (by decide)) (e3 4 (by decide) (by decide)) (e3 22 (by decide) (by decide)) (e3 23 (by decide) (by decide)), ⟨?_, ?_, ?_, ?_, ?_, ?_, ?_, ?_⟩, ⟨rfl, by show 0 ≤ f 8 0 + x; omega, by show f 8 0 + x ≤ 1200; omega, e24.trans e29.symm⟩⟩
    · rw [e3 4 (by decide) (by decide)]; exact hB.1
    · rw [e3 7 (by decide) (by decide)]; exact hB.2.1
    · rw [e3 23 (by decide) (by decide)]; exact hB.2.2.1
    · rw [e3 26 (by decide) (by decide)]; exact hB.2.2.2.1
    · rw [e3 13 (by decide) (by decide)]; exact hB.2.2.2.2.1
    · rw [e3 27 (by decide) (by decide)]; exact hB.2.2.2.2.2.1
    · rw [e29]; exact tv_byte _ _ _ hB.2.2.2.2.2.2.1
    · rw [e3 11 (by decide) (by decide)]; exact hB.2.2.2.2.2.2.2
  · rw [M_type (by omega) (by omega) (by omega) (by omega) (by omega)]
    exact ⟨fun z => absurd z.1 hc, fun _ => ⟨_, _, _, 0, rfl, rfl, fun z => absurd z (by decide), fun l5 l6 => hk _ _ _ _ _ ⟨GB.x ⟨g1, g2, g3, hA⟩ rfl, IV.code hR⟩⟩, fun z => absurd z.1 hc⟩
  · rw [M_type (by omega) (by omega) (by omega) (by omega) (by omega), l7]
    exact ⟨fun z => absurd z.2 hc.2, fun z => absurd hc.1 z, fun _ => ⟨_, _, _, 0, rfl, rfl, fun z => absurd z (by decide), fun l5 l6 => hk _ _ _ _ _ ⟨GB.x ⟨g1, g2, g3, hA⟩ rfl, IV.code hR⟩⟩⟩
set_option maxRecDepth 100000 in
set_option maxHeartbeats 1000000 in
theorem op6 (hI : IV L i f a g) (hL : L ≤ 3072) (i0 : 0 ≤ i) (i1 : i + 6 ≤ L) (hk : ∀ f' a' g' l5 l6, IV L (i + 6) f' a' g' → xT 11 0 938 [.ref 0, .ref 1, .ref 21, .ref 34, .int (xI i), l5, l6] [] (hh f' a' g') Q) : xT 11 0 536 [.ref 0, .ref 1, .ref 21, .ref 34, .int (xI i), l5, l6] [] (hh f a g) Q := by
  obtain ⟨hG, hR⟩ := hI
  obtain ⟨g1, g2, g3, hA⟩ := hG
  have b1 := hA (i + 1); have b2 := hA (i + 2)
  have hRR := hR
  obtain ⟨⟨q0, q1, q2, q3, ⟨m1, m2, m3, m4⟩, hT, hS⟩, hB, ⟨l7, l0, l1, l24⟩⟩ := hRR
  obtain ⟨B4, B7, B23, B26, B13, B27, B9, B11⟩ := hB
  refine o536 i0 (by omega) (by omega) ?_
  obtain ⟨x, hx⟩ : ∃ x, a 0 (i + 1) = x := ⟨_, rfl⟩
  obtain ⟨y, hy⟩ : ∃ y, a 0 (i + 2) = y := ⟨_, rfl⟩
  rw [hx] at b1
  rw [hy] at b2
  rw [hx, hy]
  obtain ⟨N, hN⟩ : ∃ N : Nat, f 2 3 = (N : Int) := ⟨(f 2 3).toNat, by omega⟩
  have hsh : shp (a 4) (f 2 0) (f 2 1) (f 2 2) N := fun k p yy xx k0 k1 p0 p1 y0 y1 x0 x1 => (hS k p yy xx k0 (by omega) p0 p1 y0 y1 x0 x1).2
  have hTb : ∀ k, 0 ≤ k → k < (N : Int) → 0 ≤ a 3 k ∧ a 3 k ≤ 65535 := fun k k0 k1 => (hT k k0 (by omega)).2
  have hB24 : ∀ j, 0 ≤ a 24 j ∧ a 24 j ≤ 255 := by rw [l24]; exact B9
  have hcg : (y = 1 ∨ y = 2 ∨ y = 3) → fiL x y (f 2 0) (f 2 1) (f 2 2) (a 22) (a 23) N = fiL x y (f 2 0) (f 2 1) (f 2 2) (a 3) (a 4) N := fun hys =>
    fiL_congr hys q0.1 q0.2 (by omega) q1.2 q2 (fun k k0 k1 => (hT k k0 (by omega)).1) (fun k p yy xx k0 k1 p0 p1 y0 y1 x0 x1 => (hS k p yy xx k0 (by omega) p0 p1 y0 y1 x0 x1).1)
  refine L_write (w := f 2 0) (h := f 2 1) (pn := f 2 2) (N := N) (by omega) (by omega) (by omega) (by omega) (by omega) (by omega) (by omega) B11 B9 q0.1 q0.2 q1.1 q1.2 q2 (by omega) rfl rfl rfl hN hsh B4 hTb B13 (fun hno => ⟨_, _, _, 1, rfl, by omega, by omega, rfl, rfl, ?_⟩) (fun hc hlen f1 a1 c11 c13 F1 => ⟨_, _, _, 2, rfl, by omega, by omega, F1.2.2 0 (by decide) (by decide) (by decide) (by decide) (by decide), rfl, ?_⟩) (fun hc hlen f1 a1 c11 c13 c9 c80 c9l c9o Fi Fa => ⟨_, _, _, 0, rfl, by omega, by omega, Fa 0 (by decide) (by decide) (by decide) (by decide) (by decide) (by decide), rfl, ?_⟩)
  · refine M_write (w := f 2 0) (h := f 2 1) (pn := f 2 2) (N := N) (by omega) (by omega) (by omega) (by omega) (by omega) hB24 q0.1 q0.2 q1.1 q1.2 q2 (by omega) m1 m2 m3 (m4.trans hN) B23 (fun k k0 k1 => by rw [(hT k k0 (by omega)).1]; exact hTb k k0 k1) B27 (fun _ => ⟨_, _, _, 0, rfl, rfl, fun z => absurd z (by decide), fun l5 l6 => hk _ _ _ _ _ ⟨GB.x ⟨g1, g2, g3, hA⟩ rfl, IV.code hR⟩⟩) (fun z => absurd z hno) (fun z => absurd z hno)
  · have hys : y = 1 ∨ y = 2 ∨ y = 3 := by have := hc.2; omega
    have e21 : f1 21 = f 21 := F1.1 21 (by decide) (by decide) (by decide) (by decide) (by decide)
    have e2 : f1 2 = f 2 := F1.1 2 (by decide) (by decide) (by decide) (by decide) (by decide)
    have ea : ∀ c, c ≠ 11 → c ≠ 13 → c ≠ 15 → c ≠ 16 → c ≠ 18 → a1 c = a c := F1.2.2
    have e22 := ea 22 (by decide) (by decide) (by decide) (by decide) (by decide)
    have e23 := ea 23 (by decide) (by decide) (by decide) (by decide) (by decide)
    have e24 := ea 24 (by decide) (by decide) (by decide) (by decide) (by decide)
    have e27 := ea 27 (by decide) (by decide) (by decide) (by decide) (by decide)
    have hlen' : 1200 < (fiL x y (f 2 0) (f 2 1) (f 2 2) (a1 22) (a1 23) N).length := by rw [e22, e23, hcg hys]; exact hlen
    refine M_write (w := f 2 0) (h := f 2 1) (pn := f 2 2) (N := N) (by omega) (by omega) (by omega) (by omega) (by omega) (by rw [e24]; exact hB24) q0.1 q0.2 q1.1 q1.2 q2 (by omega) (by rw [e21]; exact m1) (by rw [e21]; exact m2) (by rw [e21]; exact m3) (by rw [e21]; exact m4.trans hN) (by rw [e23]; exact B23) (fun k k0 k1 => by rw [e22, (hT k k0 (by omega)).1]; exact hTb k k0 k1) (by rw [e27]; exact B27) (fun z => absurd hc z) (fun _ _ f2 a2 c0 c27 Fi2 Fk2 Fa2 => ⟨_, _, _, 0, rfl, c0, fun z => absurd z (by decide), fun l5 l6 => hk _ _ _ _ _ ⟨GB.x ⟨g1, g2, g3, hA⟩ ?_, hR.1.of (fun k _ => ?_) (fun k k1 k2 => ?_) ?_ ?_ ?_ ?_, ⟨?_, ?_, ?_, ?_, ?_, c27, ?_, ?_⟩, ⟨?_, ?_, ?_, ?_⟩⟩⟩) (fun _ z => by omega)
    · rw [Fa2 0 (by omega), ea 0 (by decide) (by decide) (by decide) (by decide) (by decide)]
    · rw [Fi2 2 (by decide), e2]
    · rw [Fk2 k (by omega) (by omega), e21]
    · rw [Fa2 3 (by omega), ea 3 (by decide) (by decide) (by decide) (by decide) (by decide)]
    · rw [Fa2 4 (by omega), ea 4 (by decide) (by decide) (by decide) (by decide) (by decide)]
    · rw [Fa2 22 (by omega), e22]
    · rw [Fa2 23 (by omega), e23]
    · rw [Fa2 4 (by omega), ea 4 (by decide) (by decide) (by decide) (by decide) (by decide)]; exact B4
    · rw [Fa2 7 (by omega), ea 7 (by decide) (by decide) (by decide) (by decide) (by decide)]; exact B7
    · rw [Fa2 23 (by omega), e23]; exact B23
    · rw [Fa2 26 (by omega), ea 26 (by decide) (by decide) (by decide) (by decide) (by decide)]; exact B26
    · rw [Fa2 13 (by omega)]; exact c13
    · rw [Fa2 9 (by omega), ea 9 (by decide) (by decide) (by decide) (by decide) (by decide)]; exact B9
    · rw [Fa2 11 (by omega)]; exact c11
    · rw [Fk2 7 (by omega) (by omega), Fi2 8 (by decide), e21, F1.2.1 0 (by omega)]; exact l7
    · rw [Fi2 8 (by decide), F1.2.1 0 (by omega)]; exact l0
    · rw [Fi2 8 (by decide), F1.2.1 0 (by omega)]; exact l1
    · rw [Fa2 24 (by omega), Fa2 9 (by omega), e24, ea 9 (by decide) (by decide) (by decide) (by decide) (by decide)]; exact l24
  · have hys : y = 1 ∨ y = 2 ∨ y = 3 := by have := hc.2; omega
    have e21 : f1 21 = f 21 := Fi 21 (by decide) (by decide) (by decide) (by decide) (by decide)
    have e2 : f1 2 = f 2 := Fi 2 (by decide) (by decide) (by decide) (by decide) (by decide)
    have e22 := Fa 22 (by decide) (by decide) (by decide) (by decide) (by decide) (by decide)
    have e23 := Fa 23 (by decide) (by decide) (by decide) (by decide) (by decide) (by decide)
    have e24 := Fa 24 (by decide) (by decide) (by decide) (by decide) (by decide) (by decide)
    have e27 := Fa 27 (by decide) (by decide) (by decide) (by decide) (by decide) (by decide)
    have hfe : fiL x y (f 2 0) (f 2 1) (f 2 2) (a1 22) (a1 23) N = fiL x y (f 2 0) (f 2 1) (f 2 2) (a 3) (a 4) N := by rw [e22, e23]; exact hcg hys
    refine M_write (w := f 2 0) (h := f 2 1) (pn := f 2 2) (N := N) (by omega) (by omega) (by omega) (by omega) (by omega) (by rw [e24]; exact hB24) q0.1 q0.2 q1.1 q1.2 q2 (by omega) (by rw [e21]; exact m1) (by rw [e21]; exact m2) (by rw [e21]; exact m3) (by rw [e21]; exact m4.trans hN) (by rw [e23]; exact B23) (fun k k0 k1 => by rw [e22, (hT k k0 (by omega)).1]; exact hTb k k0 k1) (by rw [e27]; exact B27) (fun z => absurd hc z) (fun _ z => by rw [hfe] at z; omega) (fun _ _ f2 a2 c0 c27 D2 Fi2 Fk2 Fa2 => ⟨_, _, _, _, rfl, c0, fun _ => by rw [gl_get, hfe], fun l5 l6 => hk _ _ _ _ _ ⟨GB.l ⟨g1, g2, g3, hA⟩ ?_, hR.1.of (fun k _ => ?_) (fun k k1 k2 => ?_) ?_ ?_ ?_ ?_, ⟨?_, ?_, ?_, ?_, ?_, c27, ?_, ?_⟩, ⟨?_, ?_, ?_, ?_⟩⟩⟩)
    · rw [Fa2 0 (by omega) (by decide), Fa 0 (by decide) (by decide) (by decide) (by decide) (by decide) (by decide)]
    · rw [Fi2 2 (by decide), e2]
    · rw [Fk2 k (by omega) (by omega) (by omega), e21]
    · rw [Fa2 3 (by omega) (by decide), Fa 3 (by decide) (by decide) (by decide) (by decide) (by decide) (by decide)]
    · rw [Fa2 4 (by omega) (by decide), Fa 4 (by decide) (by decide) (by decide) (by decide) (by decide) (by decide)]
    · rw [Fa2 22 (by omega) (by decide), e22]
    · rw [Fa2 23 (by omega) (by decide), e23]
    · rw [Fa2 4 (by omega) (by decide), Fa 4 (by decide) (by decide) (by decide) (by decide) (by decide) (by decide)]; exact B4
    · rw [Fa2 7 (by omega) (by decide), Fa 7 (by decide) (by decide) (by decide) (by decide) (by decide) (by decide)]; exact B7
    · rw [Fa2 23 (by omega) (by decide), e23]; exact B23
    · rw [Fa2 26 (by omega) (by decide), Fa 26 (by decide) (by decide) (by decide) (by decide) (by decide) (by decide)]; exact B26
    · rw [Fa2 13 (by omega) (by decide)]; exact c13
    · rw [Fa2 9 (by omega) (by decide)]; exact c9
    · rw [Fa2 11 (by omega) (by decide)]; exact c11
    · rw [D2.1, Fi2 8 (by decide), c80, hfe]
    · rw [Fi2 8 (by decide), c80]; omega
    · rw [Fi2 8 (by decide), c80]; omega
    · funext j
      rw [Fa2 9 (by omega) (by decide)]
      by_cases hj : 0 ≤ j ∧ j < ((fiL x y (f 2 0) (f 2 1) (f 2 2) (a 3) (a 4) N).length : Int)
      · obtain ⟨n, rfl⟩ := Int.eq_ofNat_of_zero_le hj.1
        have := D2.2.1 n (by rw [hfe]; omega)
        rw [this, hfe]
        exact (c9l n (by omega)).symm
      · have := D2.2.2.2 j (by rw [hfe]; omega)
        rw [this, e24, l24]
        exact (c9o j (by omega)).symm
set_option maxRecDepth 100000 in
set_option maxHeartbeats 1000000 in
theorem op7 (hI : IV L i f a g) (hL : L ≤ 3072) (i0 : 0 ≤ i) (i1 : i + 6 ≤ L) (hk : ∀ f' a' g' l5 l6, IV L (i + 6) f' a' g' → xT 11 0 938 [.ref 0, .ref 1, .ref 21, .ref 34, .int (xI i), l5, l6] [] (hh f' a' g') Q) : xT 11 0 604 [.ref 0, .ref 1, .ref 21, .ref 34, .int (xI i), l5, l6] [] (hh f a g) Q := by
  obtain ⟨hG, hR⟩ := hI
  obtain ⟨g1, g2, g3, hA⟩ := hG
  have hRR := hR
  obtain ⟨⟨q0, q1, q2, q3, ⟨m1, m2, m3, m4⟩, hT, hS⟩, hB, ⟨l7, l0, l1, l24⟩⟩ := hRR
  obtain ⟨B4, B7, B23, B26, B13, B27, B9, B11⟩ := hB
  refine o604 ?_
  rcases rdK_val (F := a 9) (ln := f 8 0) with ⟨o, hv⟩ | ⟨w, h, pn, md, sl, N, T, B, hv⟩
  · refine p_vread (F := a 9) (ln := f 8 0) B9 l0 l1 rfl rfl B13 B11 (by omega) (hv _ _ (fun o0 o1 f1 a1 F1 => ⟨f1, a1, g, o, rfl, by omega, o1, ?_⟩))
    have e21 : f1 21 = f 21 := F1.1 21 (by decide) (by decide) (by decide) (by decide) (by decide) (by decide) (by decide)
    have ea : ∀ c, c ≠ 6 → c ≠ 7 → c ≠ 11 → c ≠ 13 → c ≠ 15 → c ≠ 16 → c ≠ 18 → a1 c = a c := F1.2.2.1
    have e24 : a1 24 = a 9 := by rw [ea 24 (by decide) (by decide) (by decide) (by decide) (by decide) (by decide) (by decide)]; exact l24
    refine p_mread (F := a 9) (ln := f 8 0) B9 l0 l1 e24 (by rw [e21]; exact l7) (by rw [ea 27 (by decide) (by decide) (by decide) (by decide) (by decide) (by decide) (by decide)]; exact B27) (by omega) (hv _ _ (fun _ _ f2 a2 c0 Fi2 Fk2 Fa2 c26 c27 => ⟨f2, a2, g, rfl, hk _ _ _ _ _ ⟨GB.s ⟨g1, g2, g3, hA⟩ ?_, hR.1.of (fun k _ => ?_) (fun k k1 k2 => ?_) ?_ ?_ ?_ ?_, ⟨?_, ?_, ?_, ?_, ?_, c27, ?_, ?_⟩, ⟨?_, ?_, ?_, ?_⟩⟩⟩))
    · rw [Fa2 0 (by omega), ea 0 (by decide) (by decide) (by decide) (by decide) (by decide) (by decide) (by decide)]
    · rw [Fi2 2 (by decide), F1.1 2 (by decide) (by decide) (by decide) (by decide) (by decide) (by decide) (by decide)]
    · rw [Fk2 k k1 (by omega), e21]
    · rw [Fa2 3 (by omega), ea 3 (by decide) (by decide) (by decide) (by decide) (by decide) (by decide) (by decide)]
    · rw [Fa2 4 (by omega), ea 4 (by decide) (by decide) (by decide) (by decide) (by decide) (by decide) (by decide)]
    · rw [Fa2 22 (by omega), ea 22 (by decide) (by decide) (by decide) (by decide) (by decide) (by decide) (by decide)]
    · rw [Fa2 23 (by omega), ea 23 (by decide) (by decide) (by decide) (by decide) (by decide) (by decide) (by decide)]
    · rw [Fa2 4 (by omega), ea 4 (by decide) (by decide) (by decide) (by decide) (by decide) (by decide) (by decide)]; exact B4
    · rw [Fa2 7 (by omega)]; exact F1.2.2.2.1 B7
    · rw [Fa2 23 (by omega), ea 23 (by decide) (by decide) (by decide) (by decide) (by decide) (by decide) (by decide)]; exact B23
    · exact c26 (by rw [ea 26 (by decide) (by decide) (by decide) (by decide) (by decide) (by decide) (by decide)]; exact B26)
    · rw [Fa2 13 (by omega)]; exact F1.2.2.2.2.1 B13
    · rw [Fa2 9 (by omega), ea 9 (by decide) (by decide) (by decide) (by decide) (by decide) (by decide) (by decide)]; exact B9
    · rw [Fa2 11 (by omega)]; exact F1.2.2.2.2.2 B11
    · rw [Fk2 7 (by omega) (by omega), Fi2 8 (by decide), e21, F1.2.1 0 (by omega)]; exact l7
    · rw [Fi2 8 (by decide), F1.2.1 0 (by omega)]; exact l0
    · rw [Fi2 8 (by decide), F1.2.1 0 (by omega)]; exact l1
    · rw [Fa2 24 (by omega), Fa2 9 (by omega), e24, ea 9 (by decide) (by decide) (by decide) (by decide) (by decide) (by decide) (by decide)]
  · refine p_vread (F := a 9) (ln := f 8 0) B9 l0 l1 rfl rfl B13 B11 (by omega) (hv _ _ (fun w0 w1 h0 h1 hp hmd hs N0 N3 f1 a1 F1 f0 f1' f2' f3' hT1 => ⟨f1, a1, g, -1, rfl, by omega, by omega, ?_⟩))
    have e21 : f1 21 = f 21 := F1.1 21 (by decide) (by decide) (by decide) (by decide) (by decide) (by decide) (by decide) (by decide)
    have ea : ∀ c, c ≠ 3 → c ≠ 4 → c ≠ 6 → c ≠ 7 → c ≠ 11 → c ≠ 13 → c ≠ 15 → c ≠ 16 → c ≠ 18 → a1 c = a c := F1.2.2.1
    have e24 : a1 24 = a 9 := by rw [ea 24 (by decide) (by decide) (by decide) (by decide) (by decide) (by decide) (by decide) (by decide) (by decide)]; exact l24
    refine p_mread (F := a 9) (ln := f 8 0) B9 l0 l1 e24 (by rw [e21]; exact l7) (by rw [ea 27 (by decide) (by decide) (by decide) (by decide) (by decide) (by decide) (by decide) (by decide) (by decide)]; exact B27) (by omega) (hv _ _ (fun _ _ _ _ _ _ _ _ _ f2 a2 c0 cw ch cp cN cl hT2 Fi2 Fa2 c26 c27 c23 => ⟨f2, a2, g, rfl, hk _ _ _ _ _ ⟨GB.s ⟨g1, g2, g3, hA⟩ ?_, ?_, ⟨?_, ?_, ?_, ?_, ?_, c27, ?_, ?_⟩, ⟨?_, ?_, ?_, ?_⟩⟩⟩))
    · rw [Fa2 0 (by omega) (by decide) (by decide), ea 0 (by decide) (by decide) (by decide) (by decide) (by decide) (by decide) (by decide) (by decide) (by decide)]
    · have e2 : f2 2 = f1 2 := Fi2 2 (by decide)
      unfold FI
      rw [e2, f0, f1', f2', f3', cw, ch, cp, cN, Fa2 3 (by omega) (by decide) (by decide), Fa2 4 (by omega) (by decide) (by decide)]
      refine ⟨⟨w0, w1⟩, ⟨h0, h1⟩, hp, ⟨N0, N3⟩, ⟨rfl, rfl, rfl, rfl⟩, fun j j0 j1 => ?_, fun k p yy xx k0 k1 p0 p1 y0 y1 x0 x1 => ?_⟩
      · obtain ⟨t1, t2, t3, -⟩ := hT1 j j0 j1
        obtain ⟨u1, -, -, -⟩ := hT2 j j0 j1
        rw [t1, u1]; exact ⟨rfl, t2, t3⟩
      · obtain ⟨-, -, -, t4⟩ := hT1 k k0 k1
        obtain ⟨-, -, -, u4⟩ := hT2 k k0 k1
        have := bkS_agr hmd B9 hs w0 w1 h0 h1 hp sl.toNat 0 (B k) (by omega) (by omega) t4 u4 p yy xx p0 p1 (by rw [Int.zero_mul, Int.zero_ediv]; exact y0) y1 x0 x1
        exact ⟨this.1.symm, this.2⟩
    · rw [Fa2 4 (by omega) (by decide) (by decide)]; exact F1.2.2.2.2.2.2 B7 B4
    · rw [Fa2 7 (by omega) (by decide) (by decide)]; exact F1.2.2.2.1 B7
    · exact c23 (by rw [ea 26 (by decide) (by decide) (by decide) (by decide) (by decide) (by decide) (by decide) (by decide) (by decide)]; exact B26) (by rw [ea 23 (by decide) (by decide) (by decide) (by decide) (by decide) (by decide) (by decide) (by decide) (by decide)]; exact B23)
    · exact c26 (by rw [ea 26 (by decide) (by decide) (by decide) (by decide) (by decide) (by decide) (by decide) (by decide) (by decide)]; exact B26)
    · rw [Fa2 13 (by omega) (by decide) (by decide)]; exact F1.2.2.2.2.1 B13
    · rw [Fa2 9 (by omega) (by decide) (by decide), ea 9 (by decide) (by decide) (by decide) (by decide) (by decide) (by decide) (by decide) (by decide) (by decide)]; exact B9
    · rw [Fa2 11 (by omega) (by decide) (by decide)]; exact F1.2.2.2.2.2.1 B11
    · rw [cl, Fi2 8 (by decide), F1.2.1 0 (by omega)]
    · rw [Fi2 8 (by decide), F1.2.1 0 (by omega)]; exact l0
    · rw [Fi2 8 (by decide), F1.2.1 0 (by omega)]; exact l1
    · rw [Fa2 24 (by omega) (by decide) (by decide), Fa2 9 (by omega) (by decide) (by decide), e24, ea 9 (by decide) (by decide) (by decide) (by decide) (by decide) (by decide) (by decide) (by decide) (by decide)]
end S91
