/-! WHAT HOLDS BETWEEN THE CALLS -/
def GB (L : Nat) (i : Int) (a : Nat → Int → Int) (g : xG) : Prop := g.1 = L ∧ 6 * (g.2.2.1 : Int) ≤ 600 + i ∧ (g.2.2.2 : Int) ≤ 18000 + i ∧ ∀ j, -2147483648 ≤ a 0 j ∧ a 0 j ≤ 2147483647
def FI (f : Nat → Nat → Int) (a : Nat → Int → Int) : Prop :=
  (1 ≤ f 2 0 ∧ f 2 0 ≤ 6) ∧ (1 ≤ f 2 1 ∧ f 2 1 ≤ 6) ∧ (f 2 2 = 1 ∨ f 2 2 = 3) ∧ (0 ≤ f 2 3 ∧ f 2 3 ≤ 3) ∧ (f 21 1 = f 2 0 ∧ f 21 2 = f 2 1 ∧ f 21 3 = f 2 2 ∧ f 21 4 = f 2 3) ∧ (∀ j, 0 ≤ j → j < f 2 3 → a 22 j = a 3 j ∧ 0 ≤ a 3 j ∧ a 3 j ≤ 65535) ∧
  (∀ k p y x, 0 ≤ k → k < f 2 3 → 0 ≤ p → p < f 2 2 → 0 ≤ y → y < f 2 1 → 0 ≤ x → x < f 2 0 → a 23 (108 * k + stPl p y x) = a 4 (108 * k + stPl p y x) ∧ 0 ≤ a 4 (108 * k + stPl p y x) ∧ a 4 (108 * k + stPl p y x) ≤ 255)
def BD (a : Nat → Int → Int) : Prop :=
  (∀ j, -256 ≤ a 4 j ∧ a 4 j ≤ 511) ∧ (∀ j, -256 ≤ a 7 j ∧ a 7 j ≤ 511) ∧ (∀ j, -256 ≤ a 23 j ∧ a 23 j ≤ 511) ∧ (∀ j, -256 ≤ a 26 j ∧ a 26 j ≤ 511) ∧ (∀ j, -1000 ≤ a 13 j ∧ a 13 j ≤ 1000) ∧ (∀ j, -1000 ≤ a 27 j ∧ a 27 j ≤ 1000) ∧ (∀ j, 0 ≤ a 9 j ∧ a 9 j ≤ 255) ∧ (∀ j, 0 ≤ a 11 j ∧ a 11 j ≤ 255)
def FL (f : Nat → Nat → Int) (a : Nat → Int → Int) : Prop := f 21 7 = f 8 0 ∧ 0 ≤ f 8 0 ∧ f 8 0 ≤ 1200 ∧ a 24 = a 9
def IV (L : Nat) (i : Int) (f : Nat → Nat → Int) (a : Nat → Int → Int) (g : xG) : Prop := GB L i a g ∧ FI f a ∧ BD a ∧ FL f a
section S89
variable {L : Nat} {i : Int} {f f' : Nat → Nat → Int} {a a' : Nat → Int → Int} {g : xG}
theorem GB.s (h : GB L i a g) (e : a' 0 = a 0) : GB L (i + 6) a' g := ⟨h.1, by have := h.2.1; omega, by have := h.2.2.1; omega, by rw [e]; exact h.2.2.2⟩
theorem GB.l (h : GB L i a g) (e : a' 0 = a 0) {v : Int64} : GB L (i + 6) a' (gl g v) := ⟨h.1, by have := h.2.1; show 6 * (g.2.2.1 : Int) ≤ _; omega, by have := h.2.2.1; show (g.2.2.2 : Int) ≤ _; omega, by rw [e]; exact h.2.2.2⟩
theorem GB.x (h : GB L i a g) (e : a' 0 = a 0) : GB L (i + 6) a' (gx g) := ⟨h.1, by have := h.2.1; show 6 * ((g.2.2.1 + 1 : Nat) : Int) ≤ _; omega, by have := h.2.2.1; show ((g.2.2.2 + 6 : Nat) : Int) ≤ _; omega, by rw [e]; exact h.2.2.2⟩
theorem FI.of (h : FI f a) (h2 : ∀ k, k ≤ 3 → f' 2 k = f 2 k) (h21 : ∀ k, 1 ≤ k → k ≤ 4 → f' 21 k = f 21 k) (e3 : a' 3 = a 3) (e4 : a' 4 = a 4) (e22 : a' 22 = a 22) (e23 : a' 23 = a 23) : FI f' a' := by
  unfold FI
  rw [h2 0 (by omega), h2 1 (by omega), h2 2 (by omega), h2 3 (by omega), h21 1 (by omega) (by omega), h21 2 (by omega) (by omega), h21 3 (by omega) (by omega), h21 4 (by omega) (by omega), e3, e4, e22, e23]
  exact h
theorem FL.of (h : FL f a) (h8 : f' 8 0 = f 8 0) (h21 : f' 21 7 = f 21 7) (e9 : a' 9 = a 9) (e24 : a' 24 = a 24) : FL f' a' := by
  unfold FL; rw [h8, h21, e9, e24]; exact h
theorem IV.code (h : FI f a ∧ BD a ∧ FL f a) {c : Int} : FI (xu f 21 0 c) a ∧ BD a ∧ FL (xu f 21 0 c) a :=
  ⟨h.1.of (fun k _ => rfl) (fun k k1 _ => by rw [xu_app, if_neg (by omega)]) rfl rfl rfl rfl, h.2.1, h.2.2.of rfl rfl rfl rfl⟩
variable {Q : xm_H × Outcome → Prop} {l5 l6 : Value}
theorem op0 (hI : IV L i f a g) (hL : L ≤ 3072) (i0 : 0 ≤ i) (i1 : i + 6 ≤ L) (hk : ∀ f' a' g' l5 l6, IV L (i + 6) f' a' g' → xT 11 0 938 [.ref 0, .ref 1, .ref 21, .ref 34, .int (xI i), l5, l6] [] (hh f' a' g') Q) : xT 11 0 112 [.ref 0, .ref 1, .ref 21, .ref 34, .int (xI i), l5, l6] [] (hh f a g) Q := by
  obtain ⟨hG, hR⟩ := hI
  obtain ⟨g1, g2, g3, hA⟩ := hG
  have b1 := hA (i + 1); have b2 := hA (i + 2); have b3 := hA (i + 3)
  refine o112 i0 (by omega) (by omega) ?_
  rw [L_shape (by omega) (by omega) (by omega) (by omega) (by omega) (by omega) (by omega) (by omega) (by omega)]
  refine ⟨fun hc => ⟨_, _, _, 0, rfl, by omega, by omega, rfl, rfl, ?_⟩, fun hc => ⟨_, _, _, 1, rfl, by omega, by omega, rfl, rfl, ?_⟩⟩
  · rw [M_shape (by omega) (by omega) (by omega) (by omega) (by omega) (by omega) (by omega)]
    refine ⟨fun _ => ⟨_, _, _, rfl, rfl, fun l5 l6 => hk _ _ _ _ _ ⟨GB.s ⟨g1, g2, g3, hA⟩ rfl, ⟨hc.1, hc.2.1, hc.2.2, ⟨Int.le_refl 0, (show (0 : Int) ≤ 3 by decide)⟩, ⟨rfl, rfl, rfl, rfl⟩, fun j j0 j1 => ?_, fun k p y x k0 k1 => ?_⟩, hR.2.1, hR.2.2.of rfl rfl rfl rfl⟩⟩, fun z => absurd hc z⟩
    · have : j < 0 := j1; omega
    · have : k < 0 := k1; omega
  · rw [M_shape (by omega) (by omega) (by omega) (by omega) (by omega) (by omega) (by omega)]
    exact ⟨fun z => absurd z hc, fun _ => ⟨_, _, _, rfl, rfl, fun l5 l6 => hk _ _ _ _ _ ⟨GB.x ⟨g1, g2, g3, hA⟩ rfl, IV.code hR⟩⟩⟩
theorem op1 (hI : IV L i f a g) (hL : L ≤ 3072) (i0 : 0 ≤ i) (i1 : i + 6 ≤ L) (hk : ∀ f' a' g' l5 l6, IV L (i + 6) f' a' g' → xT 11 0 938 [.ref 0, .ref 1, .ref 21, .ref 34, .int (xI i), l5, l6] [] (hh f' a' g') Q) : xT 11 0 172 [.ref 0, .ref 1, .ref 21, .ref 34, .int (xI i), l5, l6] [] (hh f a g) Q := by
  obtain ⟨hG, hR⟩ := hI
  obtain ⟨g1, g2, g3, hA⟩ := hG
  have b1 := hA (i + 1)
  have hRR := hR
  obtain ⟨⟨q0, q1, q2, q3, ⟨m1, m2, m3, m4⟩, hT, hS⟩, hB, hl⟩ := hRR
  have ht : ¬ f 2 3 = 0 → 0 ≤ a 3 (f 2 3 - 1) ∧ a 3 (f 2 3 - 1) ≤ 65535 := fun z => (hT (f 2 3 - 1) (by omega) (by omega)).2
  have ht22 : ¬ f 2 3 = 0 → a 22 (f 2 3 - 1) = a 3 (f 2 3 - 1) := fun z => (hT (f 2 3 - 1) (by omega) (by omega)).1
  refine o172 i0 (by omega) (by omega) ?_
  rw [L_frame (by omega) (by omega) (by omega) (by omega) (by omega) (by omega) (by omega) (by omega) q3 ht]
  obtain ⟨t, hte⟩ : ∃ t, a 0 (i + 1) = t := ⟨_, rfl⟩
  rw [hte] at b1 ⊢
  have hcond : (0 ≤ t ∧ t ≤ 65535 ∧ (f 21 4 = 0 ∨ a 22 (f 21 4 - 1) < t)) ↔ (0 ≤ t ∧ t ≤ 65535 ∧ (f 2 3 = 0 ∨ a 3 (f 2 3 - 1) < t)) := by
    rw [m4]
    by_cases hz : f 2 3 = 0
    · simp [hz]
    · rw [ht22 hz]
  have ht4 : ¬ f 21 4 = 0 → 0 ≤ a 22 (f 21 4 - 1) ∧ a 22 (f 21 4 - 1) ≤ 65535 := fun z => by rw [m4] at z ⊢; rw [ht22 z]; exact ht z
  refine ⟨fun hc => ⟨_, _, _, 0, rfl, by omega, by omega, ?_, rfl, ?_⟩, fun hc => ⟨_, _, _, 1, rfl, by omega, by omega, rfl, rfl, ?_⟩, fun hc => ⟨_, _, _, 2, rfl, by omega, by omega, rfl, rfl, ?_⟩⟩
  · rw [xw_ne _ (by decide)]; funext j; rw [if_neg (fun z => absurd z.1 (by decide))]
  · have eA : ∀ c, c ≠ 3 → c ≠ 4 → (xw (fun c j => if c = 4 ∧ f 2 3 * 108 ≤ j ∧ j < f 2 3 * 108 + 108 then 0 else a c j) 3 (f 2 3) t) c = a c := fun c c3 c4 => by
      rw [xw_ne _ c3]; funext j; rw [if_neg (fun z => c4 z.1)]
    obtain ⟨a1, ha1⟩ : ∃ a1, (xw (fun c j => if c = 4 ∧ f 2 3 * 108 ≤ j ∧ j < f 2 3 * 108 + 108 then 0 else a c j) 3 (f 2 3) t) = a1 := ⟨_, rfl⟩
    rw [ha1] at eA ⊢
    have h3 : ∀ j, a1 3 j = if j = f 2 3 then t else a 3 j := fun j => by rw [← ha1, xw_app]; by_cases hj : j = f 2 3 <;> simp [hj]
    have h4 : ∀ j, a1 4 j = if f 2 3 * 108 ≤ j ∧ j < f 2 3 * 108 + 108 then 0 else a 4 j := fun j => by rw [← ha1, xw_ne _ (by decide)]; by_cases hj : f 2 3 * 108 ≤ j ∧ j < f 2 3 * 108 + 108 <;> simp [hj]
    have e22 := eA 22 (by decide) (by decide)
    have e23 := eA 23 (by decide) (by decide)
    rw [M_frame0 (f := xu f 2 3 (f 2 3 + 1)) (a := a1) (by omega) (by omega) (by omega) (by show 0 ≤ f 21 4 ∧ f 21 4 ≤ 3; omega) (by show ¬ f 21 4 = 0 → 0 ≤ a1 22 (f 21 4 - 1) ∧ a1 22 (f 21 4 - 1) ≤ 65535; rw [e22]; exact ht4) (by show (0 ≤ t ∧ t ≤ 65535 ∧ (f 21 4 = 0 ∨ a1 22 (f 21 4 - 1) < t)) ∧ f 21 4 < 3; rw [e22]; exact ⟨hcond.mpr hc.1, by omega⟩)]
    have e214 : xu f 2 3 (f 2 3 + 1) 21 4 = f 2 3 := m4
    rw [e214]
    have eB0 : ∀ c, c ≠ 22 → c ≠ 23 → (fun (c : Nat) (j : Int) => if c = 23 ∧ 108 * f 2 3 + 0 ≤ j ∧ j < 108 * f 2 3 + 108 then 0 else (xw a1 22 (f 2 3) t) c j) c = a1 c := fun c c22 c23 => by
      funext j; show (if c = 23 ∧ _ then (0 : Int) else (xw a1 22 (f 2 3) t) c j) = _; rw [if_neg (fun z => c23 z.1), xw_ne _ c22]
    have h220 : ∀ j, (fun (c : Nat) (j : Int) => if c = 23 ∧ 108 * f 2 3 + 0 ≤ j ∧ j < 108 * f 2 3 + 108 then 0 else (xw a1 22 (f 2 3) t) c j) 22 j = if j = f 2 3 then t else a 22 j := fun j => by
      show (if (22 : Nat) = 23 ∧ _ then (0 : Int) else (xw a1 22 (f 2 3) t) 22 j) = _
      rw [if_neg (fun z => absurd z.1 (by decide)), xw_app, e22]; by_cases hj : j = f 2 3 <;> simp [hj]
    have h230 : ∀ j, (fun (c : Nat) (j : Int) => if c = 23 ∧ 108 * f 2 3 + 0 ≤ j ∧ j < 108 * f 2 3 + 108 then 0 else (xw a1 22 (f 2 3) t) c j) 23 j = if 108 * f 2 3 ≤ j ∧ j < 108 * f 2 3 + 108 then 0 else a 23 j := fun j => by
      show (if (23 : Nat) = 23 ∧ 108 * f 2 3 + 0 ≤ j ∧ j < 108 * f 2 3 + 108 then (0 : Int) else (xw a1 22 (f 2 3) t) 23 j) = _
      rw [xw_ne _ (by decide), e23, Int.add_zero]; simp
    obtain ⟨a2, ha2⟩ : ∃ a2, (fun (c : Nat) (j : Int) => if c = 23 ∧ 108 * f 2 3 + 0 ≤ j ∧ j < 108 * f 2 3 + 108 then 0 else (xw a1 22 (f 2 3) t) c j) = a2 := ⟨_, rfl⟩
    rw [ha2] at eB0 h220 h230 ⊢
    have eC : ∀ c, c ≠ 3 → c ≠ 4 → c ≠ 22 → c ≠ 23 → a2 c = a c := fun c c1 c2 c3 c4 => (eB0 c c3 c4).trans (eA c c1 c2)
    have f3 : ∀ j, a2 3 j = if j = f 2 3 then t else a 3 j := fun j => by rw [eB0 3 (by decide) (by decide)]; exact h3 j
    have f4 : ∀ j, a2 4 j = if f 2 3 * 108 ≤ j ∧ j < f 2 3 * 108 + 108 then 0 else a 4 j := fun j => by rw [eB0 4 (by decide) (by decide)]; exact h4 j
    refine ⟨_, _, _, f 2 3, rfl, rfl, fun _ => gl_get _ _, fun l5 l6 => hk _ _ _ _ _ ⟨GB.l ⟨g1, g2, g3, hA⟩ (eC 0 (by decide) (by decide) (by decide) (by decide)), ⟨q0, q1, q2, ?_, ⟨m1, m2, m3, rfl⟩, fun j j0 j1 => ?_, fun k p y x k0 k1 p0 p1 y0 y1 x0 x1 => ?_⟩, ⟨fun j => ?_, ?_, fun j => ?_, ?_, ?_, ?_, ?_, ?_⟩, ?_⟩⟩
    · show 0 ≤ f 2 3 + 1 ∧ f 2 3 + 1 ≤ 3; omega
    · have j1' : j < f 2 3 + 1 := j1
      rw [h220, f3]
      by_cases hj : j = f 2 3
      · rw [if_pos hj, if_pos hj]; omega
      · rw [if_neg hj, if_neg hj]; exact hT j j0 (by omega)
    · have k1' : k < f 2 3 + 1 := k1
      have y1' : y < f 2 1 := y1
      have x1' : x < f 2 0 := x1
      have p1' : p < f 2 2 := p1
      have hst : 0 ≤ stPl p y x ∧ stPl p y x < 108 := by unfold stPl; omega
      rw [h230, f4]
      by_cases hkk : k = f 2 3
      · rw [if_pos ⟨by omega, by omega⟩, if_pos ⟨by omega, by omega⟩]; omega
      · rw [if_neg (by omega), if_neg (by omega)]
        exact hS k p y x k0 (by omega) p0 p1' y0 y1' x0 x1'
    · rw [f4]; split
      · omega
      · exact hB.1 j
    · rw [eC 7 (by decide) (by decide) (by decide) (by decide)]; exact hB.2.1
    · rw [h230]; split
      · omega
      · exact hB.2.2.1 j
    · rw [eC 26 (by decide) (by decide) (by decide) (by decide)]; exact hB.2.2.2.1
    · rw [eC 13 (by decide) (by decide) (by decide) (by decide)]; exact hB.2.2.2.2.1
    · rw [eC 27 (by decide) (by decide) (by decide) (by decide)]; exact hB.2.2.2.2.2.1
    · rw [eC 9 (by decide) (by decide) (by decide) (by decide)]; exact hB.2.2.2.2.2.2.1
    · rw [eC 11 (by decide) (by decide) (by decide) (by decide)]; exact hB.2.2.2.2.2.2.2
    · exact hl.of rfl rfl (eC 9 (by decide) (by decide) (by decide) (by decide)) (eC 24 (by decide) (by decide) (by decide) (by decide))
  · have hc' : ¬ (0 ≤ t ∧ t ≤ 65535 ∧ (f 21 4 = 0 ∨ a 22 (f 21 4 - 1) < t)) := fun z => hc (hcond.mp z)
    rw [M_frame12 (by omega) (by omega) (by omega) (by omega) ht4 (fun z => hc' z.1)]
    exact ⟨fun _ => ⟨_, _, _, 0, rfl, rfl, fun z => absurd z (by decide), fun l5 l6 => hk _ _ _ _ _ ⟨GB.x ⟨g1, g2, g3, hA⟩ rfl, IV.code hR⟩⟩, fun z => absurd z.1 hc'⟩
  · have hc' : 0 ≤ t ∧ t ≤ 65535 ∧ (f 21 4 = 0 ∨ a 22 (f 21 4 - 1) < t) := hcond.mpr hc.1
    rw [M_frame12 (by omega) (by omega) (by omega) (by omega) ht4 (fun z => by omega)]
    exact ⟨fun z => absurd hc' z, fun _ => ⟨_, _, _, 0, rfl, rfl, fun z => absurd z (by decide), fun l5 l6 => hk _ _ _ _ _ ⟨GB.x ⟨g1, g2, g3, hA⟩ rfl, IV.code hR⟩⟩⟩
end S89
