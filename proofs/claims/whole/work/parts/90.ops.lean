/-! THE LAW'S OPERATIONS (by program: wip/whole/gen90.py) -/
section S90
variable {L : Nat} {i : Int} {f f' : Nat → Nat → Int} {a a' : Nat → Int → Int} {g : xG} {Q : xm_H × Outcome → Prop} {l5 l6 : Value}
set_option maxRecDepth 100000 in
theorem op2 (hI : IV L i f a g) (hL : L ≤ 3072) (i0 : 0 ≤ i) (i1 : i + 6 ≤ L) (hk : ∀ f' a' g' l5 l6, IV L (i + 6) f' a' g' → xT 11 0 938 [.ref 0, .ref 1, .ref 21, .ref 34, .int (xI i), l5, l6] [] (hh f' a' g') Q) : xT 11 0 228 [.ref 0, .ref 1, .ref 21, .ref 34, .int (xI i), l5, l6] [] (hh f a g) Q := by
  obtain ⟨hG, hR⟩ := hI
  obtain ⟨g1, g2, g3, hA⟩ := hG
  have b1 := hA (i + 1); have b2 := hA (i + 2); have b3 := hA (i + 3); have b4 := hA (i + 4); have b5 := hA (i + 5)
  have hRR := hR
  obtain ⟨⟨q0, q1, q2, q3, ⟨m1, m2, m3, m4⟩, hT, hS⟩, hB, ⟨l7, l0, l1, l24⟩⟩ := hRR
  refine o228 i0 (by omega) (by omega) ?_
  obtain ⟨x, hx⟩ : ∃ x, a 0 (i + 1) = x := ⟨_, rfl⟩
  obtain ⟨y, hy⟩ : ∃ y, a 0 (i + 2) = y := ⟨_, rfl⟩
  obtain ⟨z, hz⟩ : ∃ z, a 0 (i + 3) = z := ⟨_, rfl⟩
  obtain ⟨u, hu⟩ : ∃ u, a 0 (i + 4) = u := ⟨_, rfl⟩
  obtain ⟨v, hv⟩ : ∃ v, a 0 (i + 5) = v := ⟨_, rfl⟩
  rw [hx, hy, hz, hu, hv]
  rw [hx] at b1
  rw [hy] at b2
  rw [hz] at b3
  rw [hu] at b4
  rw [hv] at b5
  rw [L_set (by omega) (by omega) (by omega) (by omega) (by omega) (by omega) (by omega) (by omega) (by omega) (by omega) (by omega) (by omega) (by omega) (by omega) (by omega) (by omega) q3]
  have hcond : (0 ≤ x ∧ x < f 21 4 ∧ 0 ≤ y ∧ y < f 21 3 ∧ 0 ≤ z ∧ z < f 21 1 ∧ 0 ≤ u ∧ u < f 21 2) ↔ (0 ≤ x ∧ x < f 2 3 ∧ 0 ≤ y ∧ y < f 2 2 ∧ 0 ≤ z ∧ z < f 2 0 ∧ 0 ≤ u ∧ u < f 2 1) := by rw [m1, m2, m3, m4]
  have hidx1 : x * 108 + ((y * 6 + u) * 6 + z) = 108 * x + stPl y u z := by unfold stPl; omega
  have hidx2 : 108 * x + 36 * y + 6 * u + z = 108 * x + stPl y u z := by unfold stPl; omega
  rw [hidx1]
  refine ⟨fun hc => ⟨_, _, _, 0, rfl, by omega, by omega, xw_ne _ (by decide), rfl, ?_⟩, fun hc => ⟨_, _, _, 1, rfl, by omega, by omega, rfl, rfl, ?_⟩, fun hc => ⟨_, _, _, 2, rfl, by omega, by omega, rfl, rfl, ?_⟩⟩
  · have hcell := hS x y u z (by omega) (by omega) (by omega) (by omega) (by omega) (by omega) (by omega) (by omega)
    rw [M_set (by omega) (by omega) (by omega) (by omega) (by omega) (by omega) (by omega) (by omega) (by omega) (by omega) (by omega) (by omega) (by omega) (by omega) (by omega)]
    rw [hidx2]
    refine ⟨fun _ => ⟨_, _, _, _, rfl, rfl, fun _ => ?_, fun l5 l6 => hk _ _ _ _ _ ⟨GB.l ⟨g1, g2, g3, hA⟩ ?_, ⟨q0, q1, q2, q3, ⟨m1, m2, m3, m4⟩, fun j j0 j1 => ?_, fun k p yy xx k0 k1 p0 p1 y0 y1 x0 x1 => ?_⟩, ⟨fun j => ?_, ?_, fun j => ?_, ?_, ?_, ?_, ?_, ?_⟩, ?_⟩⟩, fun z => absurd (hcond.mpr hc.1) z, fun z => absurd hc.2 z.2⟩
    · rw [gl_get, xw_ne _ (by decide), hcell.1]
    · rw [xw_ne _ (by decide), xw_ne _ (by decide)]
    · rw [xw_ne _ (by decide), xw_ne _ (by decide), xw_ne _ (by decide), xw_ne _ (by decide)]; exact hT j j0 j1
    · have hq := hS k p yy xx k0 k1 p0 p1 y0 y1 x0 x1
      rw [xw_app, xw_ne _ (show (23 : Nat) ≠ 4 by decide), xw_ne _ (show (4 : Nat) ≠ 23 by decide), xw_app]
      by_cases he : 108 * k + stPl p yy xx = 108 * x + stPl y u z
      · rw [if_pos ⟨rfl, he⟩, if_pos ⟨rfl, he⟩]; exact ⟨rfl, hc.2⟩
      · rw [if_neg (fun z => he z.2), if_neg (fun z => he z.2)]; exact hq
    · rw [xw_ne _ (by decide), xw_app]; split
      · omega
      · exact hB.1 j
    · rw [xw_ne _ (by decide), xw_ne _ (by decide)]; exact hB.2.1
    · rw [xw_app]; split
      · omega
      · rw [xw_ne _ (by decide)]; exact hB.2.2.1 j
    · rw [xw_ne _ (by decide), xw_ne _ (by decide)]; exact hB.2.2.2.1
    · rw [xw_ne _ (by decide), xw_ne _ (by decide)]; exact hB.2.2.2.2.1
    · rw [xw_ne _ (by decide), xw_ne _ (by decide)]; exact hB.2.2.2.2.2.1
    · rw [xw_ne _ (by decide), xw_ne _ (by decide)]; exact hB.2.2.2.2.2.2.1
    · rw [xw_ne _ (by decide), xw_ne _ (by decide)]; exact hB.2.2.2.2.2.2.2
    · refine ⟨l7, l0, l1, ?_⟩
      rw [xw_ne _ (by decide), xw_ne _ (by decide), xw_ne _ (by decide), xw_ne _ (by decide)]; exact l24
  · rw [M_set (by omega) (by omega) (by omega) (by omega) (by omega) (by omega) (by omega) (by omega) (by omega) (by omega) (by omega) (by omega) (by omega) (by omega) (by omega)]
    exact ⟨fun z => absurd (hcond.mp z.1) hc, fun _ => ⟨_, _, _, 0, rfl, rfl, fun z => absurd z (by decide), fun l5 l6 => hk _ _ _ _ _ ⟨GB.x ⟨g1, g2, g3, hA⟩ rfl, IV.code hR⟩⟩, fun z => absurd (hcond.mp z.1) hc⟩
  · rw [M_set (by omega) (by omega) (by omega) (by omega) (by omega) (by omega) (by omega) (by omega) (by omega) (by omega) (by omega) (by omega) (by omega) (by omega) (by omega)]
    exact ⟨fun z => absurd z.2 hc.2, fun z => absurd (hcond.mpr hc.1) z, fun _ => ⟨_, _, _, 0, rfl, rfl, fun z => absurd z (by decide), fun l5 l6 => hk _ _ _ _ _ ⟨GB.x ⟨g1, g2, g3, hA⟩ rfl, IV.code hR⟩⟩⟩
set_option maxRecDepth 100000 in
theorem op3 (hI : IV L i f a g) (hL : L ≤ 3072) (i0 : 0 ≤ i) (i1 : i + 6 ≤ L) (hk : ∀ f' a' g' l5 l6, IV L (i + 6) f' a' g' → xT 11 0 938 [.ref 0, .ref 1, .ref 21, .ref 34, .int (xI i), l5, l6] [] (hh f' a' g') Q) : xT 11 0 332 [.ref 0, .ref 1, .ref 21, .ref 34, .int (xI i), l5, l6] [] (hh f a g) Q := by
  obtain ⟨hG, hR⟩ := hI
  obtain ⟨g1, g2, g3, hA⟩ := hG
  have b1 := hA (i + 1); have b2 := hA (i + 2); have b3 := hA (i + 3); have b4 := hA (i + 4); have b5 := hA (i + 5)
  have hRR := hR
  obtain ⟨⟨q0, q1, q2, q3, ⟨m1, m2, m3, m4⟩, hT, hS⟩, hB, ⟨l7, l0, l1, l24⟩⟩ := hRR
  refine o332 i0 (by omega) (by omega) ?_
  obtain ⟨x, hx⟩ : ∃ x, a 0 (i + 1) = x := ⟨_, rfl⟩
  obtain ⟨y, hy⟩ : ∃ y, a 0 (i + 2) = y := ⟨_, rfl⟩
  obtain ⟨z, hz⟩ : ∃ z, a 0 (i + 3) = z := ⟨_, rfl⟩
  obtain ⟨u, hu⟩ : ∃ u, a 0 (i + 4) = u := ⟨_, rfl⟩
  rw [hx, hy, hz, hu]
  rw [hx] at b1
  rw [hy] at b2
  rw [hz] at b3
  rw [hu] at b4
  rw [L_get (by omega) (by omega) (by omega) (by omega) (by omega) (by omega) (by omega) (by omega) (by omega) (by omega) (by omega) (by omega) (by omega) (by omega) q3]
  have hcond : (0 ≤ x ∧ x < f 21 4 ∧ 0 ≤ y ∧ y < f 21 3 ∧ 0 ≤ z ∧ z < f 21 1 ∧ 0 ≤ u ∧ u < f 21 2) ↔ (0 ≤ x ∧ x < f 2 3 ∧ 0 ≤ y ∧ y < f 2 2 ∧ 0 ≤ z ∧ z < f 2 0 ∧ 0 ≤ u ∧ u < f 2 1) := by rw [m1, m2, m3, m4]
  have hidx1 : x * 108 + ((y * 6 + u) * 6 + z) = 108 * x + stPl y u z := by unfold stPl; omega
  have hidx2 : 108 * x + 36 * y + 6 * u + z = 108 * x + stPl y u z := by unfold stPl; omega
  rw [hidx1]
  refine ⟨fun hc => ⟨_, _, _, 0, rfl, by omega, by omega, rfl, rfl, ?_⟩, fun hc => ⟨_, _, _, 1, rfl, by omega, by omega, rfl, rfl, ?_⟩⟩
  · have hcell := hS x y u z (by omega) (by omega) (by omega) (by omega) (by omega) (by omega) (by omega) (by omega)
    rw [M_get (by omega) (by omega) (by omega) (by omega) (by omega) (by omega) (by omega) (by omega) (by omega) (by omega) (by omega) (by omega) (by omega)]
    rw [hidx2]
    exact ⟨fun _ => ⟨_, _, _, _, rfl, rfl, fun _ => by rw [gl_get, hcell.1], fun l5 l6 => hk _ _ _ _ _ ⟨GB.l ⟨g1, g2, g3, hA⟩ rfl, IV.code hR⟩⟩, fun z => absurd (hcond.mpr hc) z⟩
  · rw [M_get (by omega) (by omega) (by omega) (by omega) (by omega) (by omega) (by omega) (by omega) (by omega) (by omega) (by omega) (by omega) (by omega)]
    exact ⟨fun z => absurd (hcond.mp z) hc, fun _ => ⟨_, _, _, 0, rfl, rfl, fun z => absurd z (by decide), fun l5 l6 => hk _ _ _ _ _ ⟨GB.x ⟨g1, g2, g3, hA⟩ rfl, IV.code hR⟩⟩⟩
set_option maxRecDepth 100000 in
theorem op4 (hI : IV L i f a g) (hL : L ≤ 3072) (i0 : 0 ≤ i) (i1 : i + 6 ≤ L) (hk : ∀ f' a' g' l5 l6, IV L (i + 6) f' a' g' → xT 11 0 938 [.ref 0, .ref 1, .ref 21, .ref 34, .int (xI i), l5, l6] [] (hh f' a' g') Q) : xT 11 0 424 [.ref 0, .ref 1, .ref 21, .ref 34, .int (xI i), l5, l6] [] (hh f a g) Q := by
  obtain ⟨hG, hR⟩ := hI
  obtain ⟨g1, g2, g3, hA⟩ := hG
  have b1 := hA (i + 1); have b2 := hA (i + 2); have b3 := hA (i + 3); have b4 := hA (i + 4); have b5 := hA (i + 5)
  have hRR := hR
  obtain ⟨⟨q0, q1, q2, q3, ⟨m1, m2, m3, m4⟩, hT, hS⟩, hB, ⟨l7, l0, l1, l24⟩⟩ := hRR
  refine o424 i0 (by omega) (by omega) ?_
  obtain ⟨x, hx⟩ : ∃ x, a 0 (i + 1) = x := ⟨_, rfl⟩
  rw [hx]
  rw [hx] at b1
  rw [L_time (by omega) (by omega) (by omega) (by omega) (by omega) (by omega) (by omega) (by omega) q3]
  have hcond : (0 ≤ x ∧ x < f 21 4) ↔ (0 ≤ x ∧ x < f 2 3) := by rw [m4]
  refine ⟨fun hc => ⟨_, _, _, 0, rfl, by omega, by omega, rfl, rfl, ?_⟩, fun hc => ⟨_, _, _, 1, rfl, by omega, by omega, rfl, rfl, ?_⟩⟩
  · rw [M_time (by omega) (by omega) (by omega) (by omega) (by omega) (by omega) (by omega)]
    exact ⟨fun _ => ⟨_, _, _, _, rfl, rfl, fun _ => by rw [gl_get, (hT x hc.1 hc.2).1], fun l5 l6 => hk _ _ _ _ _ ⟨GB.l ⟨g1, g2, g3, hA⟩ rfl, IV.code hR⟩⟩, fun z => absurd (hcond.mpr hc) z⟩
  · rw [M_time (by omega) (by omega) (by omega) (by omega) (by omega) (by omega) (by omega)]
    exact ⟨fun z => absurd (hcond.mp z) hc, fun _ => ⟨_, _, _, 0, rfl, rfl, fun z => absurd z (by decide), fun l5 l6 => hk _ _ _ _ _ ⟨GB.x ⟨g1, g2, g3, hA⟩ rfl, IV.code hR⟩⟩⟩
set_option maxRecDepth 100000 in
theorem op5 (hI : IV L i f a g) (hL : L ≤ 3072) (i0 : 0 ≤ i) (i1 : i + 6 ≤ L) (hk : ∀ f' a' g' l5 l6, IV L (i + 6) f' a' g' → xT 11 0 938 [.ref 0, .ref 1, .ref 21, .ref 34, .int (xI i), l5, l6] [] (hh f' a' g') Q) : xT 11 0 480 [.ref 0, .ref 1, .ref 21, .ref 34, .int (xI i), l5, l6] [] (hh f a g) Q := by
  obtain ⟨hG, hR⟩ := hI
  obtain ⟨g1, g2, g3, hA⟩ := hG
  have b1 := hA (i + 1); have b2 := hA (i + 2); have b3 := hA (i + 3); have b4 := hA (i + 4); have b5 := hA (i + 5)
  have hRR := hR
  obtain ⟨⟨q0, q1, q2, q3, ⟨m1, m2, m3, m4⟩, hT, hS⟩, hB, ⟨l7, l0, l1, l24⟩⟩ := hRR
  refine o480 i0 (by omega) (by omega) ?_
  obtain ⟨x, hx⟩ : ∃ x, a 0 (i + 1) = x := ⟨_, rfl⟩
  rw [hx]
  rw [hx] at b1
  rw [L_about (by omega) (by omega) (by omega) (by omega) (by omega)]
  refine ⟨fun hc => ⟨_, _, _, 0, rfl, by omega, by omega, rfl, rfl, ?_⟩, fun hc => ⟨_, _, _, 0, rfl, by omega, by omega, rfl, rfl, ?_⟩, fun hc => ⟨_, _, _, 0, rfl, by omega, by omega, rfl, rfl, ?_⟩, fun hc => ⟨_, _, _, 0, rfl, by omega, by omega, rfl, rfl, ?_⟩, fun hc => ⟨_, _, _, 1, rfl, by omega, by omega, rfl, rfl, ?_⟩⟩
  · rw [M_about (by omega) (by omega) (by omega)]
    exact ⟨fun _ => ⟨_, _, _, _, rfl, rfl, fun _ => by rw [gl_get, m4], fun l5 l6 => hk _ _ _ _ _ ⟨GB.l ⟨g1, g2, g3, hA⟩ rfl, IV.code hR⟩⟩, fun z => by omega, fun z => by omega, fun z => by omega, fun z => by omega⟩
  · rw [M_about (by omega) (by omega) (by omega)]
    exact ⟨fun z => by omega, fun _ => ⟨_, _, _, _, rfl, rfl, fun _ => by rw [gl_get, m1], fun l5 l6 => hk _ _ _ _ _ ⟨GB.l ⟨g1, g2, g3, hA⟩ rfl, IV.code hR⟩⟩, fun z => by omega, fun z => by omega, fun z => by omega⟩
  · rw [M_about (by omega) (by omega) (by omega)]
    exact ⟨fun z => by omega, fun z => by omega, fun _ => ⟨_, _, _, _, rfl, rfl, fun _ => by rw [gl_get, m2], fun l5 l6 => hk _ _ _ _ _ ⟨GB.l ⟨g1, g2, g3, hA⟩ rfl, IV.code hR⟩⟩, fun z => by omega, fun z => by omega⟩
  · rw [M_about (by omega) (by omega) (by omega)]
    exact ⟨fun z => by omega, fun z => by omega, fun z => by omega, fun _ => ⟨_, _, _, _, rfl, rfl, fun _ => by rw [gl_get, m3], fun l5 l6 => hk _ _ _ _ _ ⟨GB.l ⟨g1, g2, g3, hA⟩ rfl, IV.code hR⟩⟩, fun z => by omega⟩
  · rw [M_about (by omega) (by omega) (by omega)]
    exact ⟨fun z => by omega, fun z => by omega, fun z => by omega, fun z => by omega, fun _ => ⟨_, _, _, 0, rfl, rfl, fun z => absurd z (by decide), fun l5 l6 => hk _ _ _ _ _ ⟨GB.x ⟨g1, g2, g3, hA⟩ rfl, IV.code hR⟩⟩⟩
set_option maxRecDepth 100000 in
theorem op8 (hI : IV L i f a g) (hL : L ≤ 3072) (i0 : 0 ≤ i) (i1 : i + 6 ≤ L) (hk : ∀ f' a' g' l5 l6, IV L (i + 6) f' a' g' → xT 11 0 938 [.ref 0, .ref 1, .ref 21, .ref 34, .int (xI i), l5, l6] [] (hh f' a' g') Q) : xT 11 0 617 [.ref 0, .ref 1, .ref 21, .ref 34, .int (xI i), l5, l6] [] (hh f a g) Q := by
  obtain ⟨hG, hR⟩ := hI
  obtain ⟨g1, g2, g3, hA⟩ := hG
  have b1 := hA (i + 1); have b2 := hA (i + 2); have b3 := hA (i + 3); have b4 := hA (i + 4); have b5 := hA (i + 5)
  have hRR := hR
  obtain ⟨⟨q0, q1, q2, q3, ⟨m1, m2, m3, m4⟩, hT, hS⟩, hB, ⟨l7, l0, l1, l24⟩⟩ := hRR
  refine o617 ?_
  rw [s_size]
  refine ⟨_, _, _, _, rfl, by omega, by omega, ?_⟩
  rw [s_msize, l7]
  exact ⟨_, _, _, rfl, hk _ _ _ _ _ ⟨GB.s ⟨g1, g2, g3, hA⟩ rfl, IV.code hR⟩⟩
set_option maxRecDepth 100000 in
theorem op9 (hI : IV L i f a g) (hL : L ≤ 3072) (i0 : 0 ≤ i) (i1 : i + 6 ≤ L) (hk : ∀ f' a' g' l5 l6, IV L (i + 6) f' a' g' → xT 11 0 938 [.ref 0, .ref 1, .ref 21, .ref 34, .int (xI i), l5, l6] [] (hh f' a' g') Q) : xT 11 0 630 [.ref 0, .ref 1, .ref 21, .ref 34, .int (xI i), l5, l6] [] (hh f a g) Q := by
  obtain ⟨hG, hR⟩ := hI
  obtain ⟨g1, g2, g3, hA⟩ := hG
  have b1 := hA (i + 1); have b2 := hA (i + 2); have b3 := hA (i + 3); have b4 := hA (i + 4); have b5 := hA (i + 5)
  have hRR := hR
  obtain ⟨⟨q0, q1, q2, q3, ⟨m1, m2, m3, m4⟩, hT, hS⟩, hB, ⟨l7, l0, l1, l24⟩⟩ := hRR
  refine o630 i0 (by omega) (by omega) ?_
  obtain ⟨x, hx⟩ : ∃ x, a 0 (i + 1) = x := ⟨_, rfl⟩
  rw [hx]
  rw [hx] at b1
  rw [L_byteAt (by omega) (by omega) (by omega) (by omega) (by omega) l0 l1]
  have hcond : (0 ≤ x ∧ x < f 21 7) ↔ (0 ≤ x ∧ x < f 8 0) := by rw [l7]
  refine ⟨fun hc => ⟨_, _, _, 0, rfl, by omega, by omega, rfl, rfl, ?_⟩, fun hc => ⟨_, _, _, 1, rfl, by omega, by omega, rfl, rfl, ?_⟩⟩
  · rw [M_byteAt (by omega) (by omega) (by omega) (by omega) (by omega), l24]
    exact ⟨fun _ => ⟨_, _, _, _, rfl, rfl, fun _ => by rw [gl_get], fun l5 l6 => hk _ _ _ _ _ ⟨GB.l ⟨g1, g2, g3, hA⟩ rfl, IV.code hR⟩⟩, fun z => absurd (hcond.mpr hc) z⟩
  · rw [M_byteAt (by omega) (by omega) (by omega) (by omega) (by omega)]
    exact ⟨fun z => absurd (hcond.mp z) hc, fun _ => ⟨_, _, _, 0, rfl, rfl, fun z => absurd z (by decide), fun l5 l6 => hk _ _ _ _ _ ⟨GB.x ⟨g1, g2, g3, hA⟩ rfl, IV.code hR⟩⟩⟩
set_option maxRecDepth 100000 in
theorem op10 (hI : IV L i f a g) (hL : L ≤ 3072) (i0 : 0 ≤ i) (i1 : i + 6 ≤ L) (hk : ∀ f' a' g' l5 l6, IV L (i + 6) f' a' g' → xT 11 0 938 [.ref 0, .ref 1, .ref 21, .ref 34, .int (xI i), l5, l6] [] (hh f' a' g') Q) : xT 11 0 686 [.ref 0, .ref 1, .ref 21, .ref 34, .int (xI i), l5, l6] [] (hh f a g) Q := by
  obtain ⟨hG, hR⟩ := hI
  obtain ⟨g1, g2, g3, hA⟩ := hG
  have b1 := hA (i + 1); have b2 := hA (i + 2); have b3 := hA (i + 3); have b4 := hA (i + 4); have b5 := hA (i + 5)
  have hRR := hR
  obtain ⟨⟨q0, q1, q2, q3, ⟨m1, m2, m3, m4⟩, hT, hS⟩, hB, ⟨l7, l0, l1, l24⟩⟩ := hRR
  refine o686 i0 (by omega) (by omega) ?_
  obtain ⟨x, hx⟩ : ∃ x, a 0 (i + 1) = x := ⟨_, rfl⟩
  obtain ⟨y, hy⟩ : ∃ y, a 0 (i + 2) = y := ⟨_, rfl⟩
  rw [hx, hy]
  rw [hx] at b1
  rw [hy] at b2
  rw [L_poke (by omega) (by omega) (by omega) (by omega) (by omega) (by omega) (by omega) l0 l1]
  have hcond : (0 ≤ x ∧ x < f 21 7) ↔ (0 ≤ x ∧ x < f 8 0) := by rw [l7]
  refine ⟨fun hc => ⟨_, _, _, 0, rfl, by omega, by omega, xw_ne _ (by decide), rfl, ?_⟩, fun hc => ⟨_, _, _, 1, rfl, by omega, by omega, rfl, rfl, ?_⟩, fun hc => ⟨_, _, _, 2, rfl, by omega, by omega, rfl, rfl, ?_⟩⟩
  · rw [M_poke (by omega) (by omega) (by omega) (by omega) (by omega) (by omega) (by omega)]
    refine ⟨fun _ => ⟨_, _, _, rfl, rfl, fun l5 l6 => hk _ _ _ _ _ ⟨GB.s ⟨g1, g2, g3, hA⟩ ?_, hR.1.of (fun k _ => rfl) (fun k k1 _ => by rw [xu_app, if_neg (by omega)]) ?_ ?_ ?_ ?_, ⟨?_, ?_, ?_, ?_, ?_, ?_, fun j => ?_, ?_⟩, ⟨l7, l0, l1, ?_⟩⟩⟩, fun z => absurd (hcond.mpr hc.1) z, fun z => absurd hc.2 z.2⟩
    · rw [xw_ne _ (by decide), xw_ne _ (by decide)]
    · rw [xw_ne _ (by decide), xw_ne _ (by decide)]
    · rw [xw_ne _ (by decide), xw_ne _ (by decide)]
    · rw [xw_ne _ (by decide), xw_ne _ (by decide)]
    · rw [xw_ne _ (by decide), xw_ne _ (by decide)]
    · rw [xw_ne _ (by decide), xw_ne _ (by decide)]; exact hB.1
    · rw [xw_ne _ (by decide), xw_ne _ (by decide)]; exact hB.2.1
    · rw [xw_ne _ (by decide), xw_ne _ (by decide)]; exact hB.2.2.1
    · rw [xw_ne _ (by decide), xw_ne _ (by decide)]; exact hB.2.2.2.1
    · rw [xw_ne _ (by decide), xw_ne _ (by decide)]; exact hB.2.2.2.2.1
    · rw [xw_ne _ (by decide), xw_ne _ (by decide)]; exact hB.2.2.2.2.2.1
    · rw [xw_ne _ (by decide), xw_app]; split
      · exact hc.2
      · exact hB.2.2.2.2.2.2.1 j
    · rw [xw_ne _ (by decide), xw_ne _ (by decide)]; exact hB.2.2.2.2.2.2.2
    · funext j; rw [xw_app, xw_ne _ (show (24 : Nat) ≠ 9 by decide), xw_ne _ (show (9 : Nat) ≠ 24 by decide), xw_app, l24]
      by_cases hj : j = x <;> simp [hj]
  · rw [M_poke (by omega) (by omega) (by omega) (by omega) (by omega) (by omega) (by omega)]
    exact ⟨fun z => absurd (hcond.mp z.1) hc, fun _ => ⟨_, _, _, rfl, rfl, fun l5 l6 => hk _ _ _ _ _ ⟨GB.x ⟨g1, g2, g3, hA⟩ rfl, IV.code hR⟩⟩, fun z => absurd (hcond.mp z.1) hc⟩
  · rw [M_poke (by omega) (by omega) (by omega) (by omega) (by omega) (by omega) (by omega)]
    exact ⟨fun z => absurd z.2 hc.2, fun z => absurd (hcond.mpr hc.1) z, fun _ => ⟨_, _, _, rfl, rfl, fun l5 l6 => hk _ _ _ _ _ ⟨GB.x ⟨g1, g2, g3, hA⟩ rfl, IV.code hR⟩⟩⟩
set_option maxRecDepth 100000 in
theorem op12 (hI : IV L i f a g) (hL : L ≤ 3072) (i0 : 0 ≤ i) (i1 : i + 6 ≤ L) (hk : ∀ f' a' g' l5 l6, IV L (i + 6) f' a' g' → xT 11 0 938 [.ref 0, .ref 1, .ref 21, .ref 34, .int (xI i), l5, l6] [] (hh f' a' g') Q) : xT 11 0 834 [.ref 0, .ref 1, .ref 21, .ref 34, .int (xI i), l5, l6] [] (hh f a g) Q := by
  obtain ⟨hG, hR⟩ := hI
  obtain ⟨g1, g2, g3, hA⟩ := hG
  have b1 := hA (i + 1); have b2 := hA (i + 2); have b3 := hA (i + 3); have b4 := hA (i + 4); have b5 := hA (i + 5)
  have hRR := hR
  obtain ⟨⟨q0, q1, q2, q3, ⟨m1, m2, m3, m4⟩, hT, hS⟩, hB, ⟨l7, l0, l1, l24⟩⟩ := hRR
  refine o834 i0 (by omega) (by omega) ?_
  obtain ⟨x, hx⟩ : ∃ x, a 0 (i + 1) = x := ⟨_, rfl⟩
  rw [hx]
  rw [hx] at b1
  rw [L_cut (by omega) (by omega) (by omega) (by omega) (by omega) l0 l1]
  have hcond : (0 ≤ x ∧ x ≤ f 21 7) ↔ (0 ≤ x ∧ x ≤ f 8 0) := by rw [l7]
  refine ⟨fun hc => ⟨_, _, _, 0, rfl, by omega, by omega, rfl, rfl, ?_⟩, fun hc => ⟨_, _, _, 1, rfl, by omega, by omega, rfl, rfl, ?_⟩⟩
  · rw [M_cut (by omega) (by omega) (by omega) (by show 0 ≤ f 21 7; omega) (by show f 21 7 ≤ 1200; omega)]
    exact ⟨fun _ => ⟨_, _, _, rfl, rfl, fun l5 l6 => hk _ _ _ _ _ ⟨GB.s ⟨g1, g2, g3, hA⟩ rfl, hR.1.of (fun k _ => rfl) (fun k k1 k2 => by rw [xu_app, if_neg (by omega), xu_app, if_neg (by omega)]; rfl) rfl rfl rfl rfl, hB, ⟨rfl, hc.1, by show x ≤ 1200; omega, l24⟩⟩⟩, fun z => absurd (hcond.mpr hc) z⟩
  · rw [M_cut (by omega) (by omega) (by omega) (by omega) (by omega)]
    exact ⟨fun z => absurd (hcond.mp z) hc, fun _ => ⟨_, _, _, rfl, rfl, fun l5 l6 => hk _ _ _ _ _ ⟨GB.x ⟨g1, g2, g3, hA⟩ rfl, hR.1.of (fun k _ => rfl) (fun k k1 k2 => by rw [xu_app, if_neg (by omega), xu_app, if_neg (by omega)]) rfl rfl rfl rfl, hB, ⟨l7, l0, l1, l24⟩⟩⟩⟩
set_option maxRecDepth 100000 in
theorem op13 (hI : IV L i f a g) (hL : L ≤ 3072) (i0 : 0 ≤ i) (i1 : i + 6 ≤ L) (hk : ∀ f' a' g' l5 l6, IV L (i + 6) f' a' g' → xT 11 0 938 [.ref 0, .ref 1, .ref 21, .ref 34, .int (xI i), l5, l6] [] (hh f' a' g') Q) : xT 11 0 870 [.ref 0, .ref 1, .ref 21, .ref 34, .int (xI i), l5, l6] [] (hh f a g) Q := by
  obtain ⟨hG, hR⟩ := hI
  obtain ⟨g1, g2, g3, hA⟩ := hG
  have b1 := hA (i + 1); have b2 := hA (i + 2); have b3 := hA (i + 3); have b4 := hA (i + 4); have b5 := hA (i + 5)
  have hRR := hR
  obtain ⟨⟨q0, q1, q2, q3, ⟨m1, m2, m3, m4⟩, hT, hS⟩, hB, ⟨l7, l0, l1, l24⟩⟩ := hRR
  have hB9 := hB.2.2.2.2.2.2.1
  refine o870 i0 (by omega) (by omega) ?_
  obtain ⟨x, hx⟩ : ∃ x, a 0 (i + 1) = x := ⟨_, rfl⟩
  obtain ⟨y, hy⟩ : ∃ y, a 0 (i + 2) = y := ⟨_, rfl⟩
  rw [hx, hy]
  rw [hx] at b1
  rw [hy] at b2
  rw [L_check (by omega) (by omega) (by omega) (by omega) (by omega) (by omega) (by omega) l0 l1 hB9]
  have hcond : (0 ≤ x ∧ x ≤ f 21 7 ∧ y ≤ f 21 7 - x) ↔ (0 ≤ x ∧ x ≤ f 8 0 ∧ y ≤ f 8 0 - x) := by rw [l7]
  have hB24 : ∀ j, 0 ≤ a 24 j ∧ a 24 j ≤ 255 := by rw [l24]; exact hB9
  refine ⟨fun hc => ⟨_, _, _, 0, rfl, by omega, by omega, rfl, rfl, ?_⟩, fun hc => ⟨_, _, _, 1, rfl, by omega, by omega, rfl, rfl, ?_⟩, fun hc => ⟨_, _, _, 2, rfl, by omega, by omega, rfl, rfl, ?_⟩⟩
  · rw [M_check (by omega) (by omega) (by omega) (by omega) (by omega) (by omega) (by omega) hB24, l24]
    exact ⟨fun _ => ⟨_, _, _, _, rfl, rfl, fun _ => by rw [gl_get], fun l5 l6 => hk _ _ _ _ _ ⟨GB.l ⟨g1, g2, g3, hA⟩ rfl, IV.code hR⟩⟩, fun z => absurd (hcond.mpr hc.1) z, fun z => absurd hc.2 z.2⟩
  · rw [M_check (by omega) (by omega) (by omega) (by omega) (by omega) (by omega) (by omega) hB24]
    exact ⟨fun z => absurd (hcond.mp z.1) hc, fun _ => ⟨_, _, _, 0, rfl, rfl, fun z => absurd z (by decide), fun l5 l6 => hk _ _ _ _ _ ⟨GB.x ⟨g1, g2, g3, hA⟩ rfl, IV.code hR⟩⟩, fun z => absurd (hcond.mp z.1) hc⟩
  · rw [M_check (by omega) (by omega) (by omega) (by omega) (by omega) (by omega) (by omega) hB24]
    exact ⟨fun z => absurd z.2 hc.2, fun z => absurd (hcond.mpr hc.1) z, fun _ => ⟨_, _, _, 0, rfl, rfl, fun z => absurd z (by decide), fun l5 l6 => hk _ _ _ _ _ ⟨GB.x ⟨g1, g2, g3, hA⟩ rfl, IV.code hR⟩⟩⟩
end S90
