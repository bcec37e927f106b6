/-! A SLICE IS READ BACK -/
theorem nm_dg {s : Nat → Int} {X : Int} {n : Nat} (h0 : 0 ≤ X) (h1 : X < 256 ^ n) (hs : ∀ j, j < n → s j = (dg X n).getD j 0) (q : Nat) : q ≤ n → nm s q = X / 256 ^ (n - q) := by
  induction q with
  | zero => intro _; show (0 : Int) = _; rw [Nat.sub_zero, Int.ediv_eq_zero_of_lt h0 h1]
  | succ q ih =>
    intro hq
    show 256 * nm s q + s q = _
    rw [ih (by omega), hs q (by omega), dg_getD n X q (by omega), show n - q = (n - 1 - q) + 1 by omega, show n - (q + 1) = n - 1 - q by omega, Int.pow_succ, ← Int.ediv_ediv_of_nonneg (by have := Int.pow_pos (n := 256) (m := n - 1 - q) (by decide); omega)]
    omega
theorem nb_nm {s t : Nat → Int} (ht : ∀ i, 0 ≤ t i ∧ t i ≤ 255) (hs : ∀ i, s i = t (i / 8) / 2 ^ (7 - i % 8) % 2) (q : Nat) : ∀ r, r ≤ 8 → nb s (8 * q + r) = nm t q * 2 ^ r + t q / 2 ^ (8 - r) := by
  have step : nb s (8 * q) = nm t q → ∀ r, r ≤ 8 → nb s (8 * q + r) = nm t q * 2 ^ r + t q / 2 ^ (8 - r) := by
    intro h r
    induction r with
    | zero => intro _; have := ht q; show nb s (8 * q) = nm t q * 1 + t q / 256; rw [h]; omega
    | succ r ih =>
      intro hr
      show 2 * nb s (8 * q + r) + s (8 * q + r) = _
      rw [ih (by omega), hs, show (8 * q + r) / 8 = q by omega, show (8 * q + r) % 8 = r by omega, show 8 - r = (7 - r) + 1 by omega, show 8 - (r + 1) = 7 - r by omega, Int.pow_succ, Int.pow_succ, ← Int.ediv_ediv_of_nonneg (by have := pow2_pos (7 - r); omega), ← Int.mul_assoc]
      omega
  induction q with
  | zero => exact step rfl
  | succ q ih =>
    intro r hr
    have h8 : nb s (8 * q + 8) = nm t q * 2 ^ 8 + t q / 2 ^ (8 - 8) := by
      refine ih ?_ 8 (by omega)
      intro h r
      induction r with
      | zero => intro _; have := ht q; show nb s (8 * q) = nm t q * 1 + t q / 256; rw [h]; omega
      | succ r ih =>
        intro hr
        show 2 * nb s (8 * q + r) + s (8 * q + r) = _
        rw [ih (by omega), hs, show (8 * q + r) / 8 = q by omega, show (8 * q + r) % 8 = r by omega, show 8 - r = (7 - r) + 1 by omega, show 8 - (r + 1) = 7 - r by omega, Int.pow_succ, Int.pow_succ, ← Int.ediv_ediv_of_nonneg (by have := pow2_pos (7 - r); omega), ← Int.mul_assoc]
        omega
    refine step ?_ r hr
    rw [show 8 * (q + 1) = 8 * q + 8 by omega, h8]
    show nm t q * 256 + t q / 1 = 256 * nm t q + t q
    omega
theorem bpre_fin {s t : Nat → Int} (ht : ∀ i, 0 ≤ t i ∧ t i ≤ 255) (hs : ∀ i, s i = t (i / 8) / 2 ^ (7 - i % 8) % 2) {σ : bS} (h : bJ σ) (hD : ∀ j, j < σ.2.2.2.1 → t j = (dg σ.2.2.1 σ.2.2.2.1).getD j 0) : bpre s σ := by
  obtain ⟨S, C, X, n, lf⟩ := σ
  obtain ⟨⟨hC, h0, h1, h2, h3, h4⟩, h5⟩ := h
  dsimp only at h0 h1 h2 h3 h4 h5 hD
  unfold bpre wv ps; dsimp only
  by_cases hn : n = 0
  · subst hn
    have hl := h4 rfl
    subst hl
    have : X = 0 := by omega
    subst this; rfl
  · have hq := nm_dg h0 h5 hD (n - 1) (by omega)
    rw [show n - (n - 1) = 1 by omega] at hq
    have hlast := hD (n - 1) (by omega)
    rw [dg_getD n X (n - 1) (by omega), show n - 1 - (n - 1) = 0 by omega] at hlast
    have hb := nb_nm ht hs (n - 1) (8 - lf.toNat) (by omega)
    rw [show 8 * n - lf.toNat = 8 * (n - 1) + (8 - lf.toNat) by omega, hb, hq, hlast]
    have hc : lf = 0 ∨ lf = 1 ∨ lf = 2 ∨ lf = 3 ∨ lf = 4 ∨ lf = 5 ∨ lf = 6 ∨ lf = 7 := by omega
    rcases hc with rfl | rfl | rfl | rfl | rfl | rfl | rfl | rfl <;> simp only [Int.reduceToNat, Nat.reduceSub, Int.reducePow] <;> omega
theorem rpre_fin {t : Nat → Int} {σ : rS} (h : rI σ) (hD : ∀ j, j < σ.2.2.2 → t j = (dg σ.2.2.1 σ.2.2.2).getD j 0) : rpre t σ := by
  obtain ⟨T, R, X, n⟩ := σ
  obtain ⟨h1, h2, h3, h4, h5⟩ := h
  dsimp only at h1 h2 h4 h5 hD
  have hq := nm_dg h4 (by omega) hD n (Nat.le_refl _)
  rw [Nat.sub_self] at hq
  unfold rpre; dsimp only
  rw [hq]; omega
/-- the file's bytes from fr to en are those of a slice with these values -/
def isD (D : List Int) (F : Int → Int) (fr en : Int) : Prop := (D.length : Int) = en - fr ∧ ∀ j : Nat, j < D.length → F (fr + j) = D.getD j 0
theorem isD.byte {D : List Int} {F : Int → Int} {fr en : Int} (h : isD D F fr en) (j : Nat) (hj : j < D.length) : sb F fr en j = D.getD j 0 := by
  have := h.1
  unfold sb sB; rw [if_pos (by omega)]; exact h.2 j hj
def rd0 (F : Int → Int) (fr en w y0 y1 pn : Int) (V0 : Int → Int) : Int → Int := (pA (fun τ c _ => bdN (bt F fr en) τ c) (fun τ c _ => bdO (bt F fr en) τ c) w y0 y1 (dInit, V0) 0 pn.toNat).2
def rd1 (F : Int → Int) (fr en w y0 y1 pn : Int) (V0 : Int → Int) : Int → Int := (pA (fun τ c _ => (rdX (sb F fr en) τ c).2) (fun τ c _ => (rdX (sb F fr en) τ c).1) w y0 y1 (qInit (sb F fr en 0 * 256 + sb F fr en 1), V0) 0 pn.toNat).2
def md0 (F : Int → Int) (fr en w y0 y1 pn : Int) (V0 : Int → Int) : mS × (Int → Int) := pA (fun τ c _ => bmN (bt F fr en) τ c) (fun τ c _ => bmO (bt F fr en) τ c) w y0 y1 ((dInit, 0), V0) 0 pn.toNat
def md1 (F : Int → Int) (fr en w y0 y1 pn : Int) (V0 : Int → Int) : nS × (Int → Int) := pA (fun τ c _ => rmN (sb F fr en) τ c) (fun τ c _ => rmO (sb F fr en) τ c) w y0 y1 (nInit (sb F fr en), V0) 0 pn.toNat
section S70
variable {F V V0 : Int → Int} {fr en w y0 y1 pn : Int}
theorem bInit_J : bJ bInit := ⟨bInit_I, by decide⟩
theorem fin_b (hF : ∀ j, 0 ≤ F j ∧ F j ≤ 255) (hD : isD (eL 0 V w y0 y1 pn) F fr en) : bpre (bt F fr en) (mA bE V w y0 y1 bInit 0 pn.toNat) := by
  have hJ := (mA_pre (V := V) (w := w) (y0 := y0) (y1 := y1) (rdr_b (bt_bd F fr en)) pn.toNat bInit 0 bInit_J).1
  refine bpre_fin (t := sb F fr en) (sb_bd hF fr en) (fun i => rfl) hJ fun j hj => ?_
  have he : eL 0 V w y0 y1 pn = dg (mA bE V w y0 y1 bInit 0 pn.toNat).2.2.1 (mA bE V w y0 y1 bInit 0 pn.toNat).2.2.2.1 := if_pos rfl
  rw [← he]; exact hD.byte j (by rw [he, dg_len]; exact hj)
theorem fin_r (hF : ∀ j, 0 ≤ F j ∧ F j ≤ 255) (hD : isD (eL 1 V w y0 y1 pn) F fr en) : rpre (sb F fr en) (mA rE V w y0 y1 rInit 0 pn.toNat) := by
  have hJ := (mA_pre (V := V) (w := w) (y0 := y0) (y1 := y1) (rdr_r (sb_bd hF fr en)) pn.toNat rInit 0 rInit_I).1
  refine rpre_fin hJ fun j hj => ?_
  have he : eL 1 V w y0 y1 pn = dg (mA rE V w y0 y1 rInit 0 pn.toNat).2.2.1 (mA rE V w y0 y1 rInit 0 pn.toNat).2.2.2 := if_neg (by decide)
  rw [← he]; exact hD.byte j (by rw [he, dg_len]; exact hj)
theorem dec_b (hF : ∀ j, 0 ≤ F j ∧ F j ≤ 255) (hp : prp V w y0 y1 pn) (w0 : 1 ≤ w) (w1 : w ≤ 6) (hy0 : 0 ≤ y0) (hyy : y0 ≤ y1) (hy1 : y1 ≤ 6) (p0 : 0 ≤ pn) (hD : isD (eL 0 V w y0 y1 pn) F fr en) : agr (rd0 F fr en w y0 y1 pn V0) V w y0 y1 pn :=
  (pA_dec (rdr_b (bt_bd F fr en)) hp w0 w1 hy0 hyy hy1 pn.toNat bInit dInit V0 0 (by omega) (by omega) bInit_J rfl (fin_b hF hD) (fun q y x q0 q1 => by omega)).2
theorem dec_bm (hF : ∀ j, 0 ≤ F j ∧ F j ≤ 255) (hp : prp V w y0 y1 pn) (w0 : 1 ≤ w) (w1 : w ≤ 6) (hy0 : 0 ≤ y0) (hyy : y0 ≤ y1) (hy1 : y1 ≤ 6) (p0 : 0 ≤ pn) (hD : isD (eL 0 V w y0 y1 pn) F fr en) : (md0 F fr en w y0 y1 pn V0).1.2 = 0 ∧ agr (md0 F fr en w y0 y1 pn V0).2 V w y0 y1 pn := by
  have h := pA_dec (rdr_bm (bt_bd F fr en)) hp w0 w1 hy0 hyy hy1 pn.toNat bInit (dInit, 0) V0 0 (by omega) (by omega) bInit_J rfl (fin_b hF hD) (fun q y x q0 q1 => by omega)
  refine ⟨?_, h.2⟩
  unfold md0; rw [h.1]
theorem init_r (hF : ∀ j, 0 ≤ F j ∧ F j ≤ 255) (hD : isD (eL 1 V w y0 y1 pn) F fr en) : 256 * sb F fr en 0 + sb F fr en 1 < 65280 := by
  have h := (mA_pre (V := V) (w := w) (y0 := y0) (y1 := y1) (rdr_r (sb_bd hF fr en)) pn.toNat rInit 0 rInit_I).2 (fin_r hF hD)
  have h2 : nm (sb F fr en) 2 < 0 + 65280 := h.2
  have h3 : nm (sb F fr en) 2 = 256 * (256 * 0 + sb F fr en 0) + sb F fr en 1 := rfl
  omega
theorem dec_r (hF : ∀ j, 0 ≤ F j ∧ F j ≤ 255) (hp : prp V w y0 y1 pn) (w0 : 1 ≤ w) (w1 : w ≤ 6) (hy0 : 0 ≤ y0) (hyy : y0 ≤ y1) (hy1 : y1 ≤ 6) (p0 : 0 ≤ pn) (hD : isD (eL 1 V w y0 y1 pn) F fr en) : agr (rd1 F fr en w y0 y1 pn V0) V w y0 y1 pn := by
  refine (pA_dec (rdr_r (sb_bd hF fr en)) hp w0 w1 hy0 hyy hy1 pn.toNat rInit (qInit (sb F fr en 0 * 256 + sb F fr en 1)) V0 0 (by omega) (by omega) rInit_I ?_ (fin_r hF hD) (fun q y x q0 q1 => by omega)).2
  have h3 : nm (sb F fr en) 2 = 256 * (256 * 0 + sb F fr en 0) + sb F fr en 1 := rfl
  unfold qInit qOf rInit; dsimp only; rw [h3]
  congr 3; omega
theorem dec_rm (hF : ∀ j, 0 ≤ F j ∧ F j ≤ 255) (hp : prp V w y0 y1 pn) (w0 : 1 ≤ w) (w1 : w ≤ 6) (hy0 : 0 ≤ y0) (hyy : y0 ≤ y1) (hy1 : y1 ≤ 6) (p0 : 0 ≤ pn) (hD : isD (eL 1 V w y0 y1 pn) F fr en) : (md1 F fr en w y0 y1 pn V0).1.2 = 0 ∧ agr (md1 F fr en w y0 y1 pn V0).2 V w y0 y1 pn := by
  have hi := init_r hF hD
  have h3 : nm (sb F fr en) 2 = 256 * (256 * 0 + sb F fr en 0) + sb F fr en 1 := rfl
  have h := pA_dec (rdr_rm (sb_bd hF fr en)) hp w0 w1 hy0 hyy hy1 pn.toNat rInit (nInit (sb F fr en)) V0 0 (by omega) (by omega) rInit_I (by
    unfold nInit; rw [if_pos hi]
    unfold qInit qOf rInit; dsimp only; rw [h3]
    congr 4; omega) (fin_r hF hD) (fun q y x q0 q1 => by omega)
  refine ⟨?_, h.2⟩
  unfold md1; rw [h.1]
/-- the samples that values give -/
def unG (V : Int → Int) (y x : Int) : Int := V (stPl 0 y x) - (V (stPl 1 y x) + V (stPl 2 y x)) / 4
def unS (V : Int → Int) (pn p y x : Int) : Int := if pn = 1 then V (stPl 0 y x) else if p = 0 then V (stPl 2 y x) + unG V y x else if p = 1 then unG V y x else V (stPl 1 y x) + unG V y x
def ok1 (V : Int → Int) (pn y x : Int) : Prop := pn = 1 ∨ (0 ≤ unG V y x ∧ unG V y x ≤ 255) ∧ (0 ≤ V (stPl 2 y x) + unG V y x ∧ V (stPl 2 y x) + unG V y x ≤ 255) ∧ (0 ≤ V (stPl 1 y x) + unG V y x ∧ V (stPl 1 y x) + unG V y x ≤ 255)
def fitV (V : Int → Int) (w y0 y1 pn : Int) : Prop := ∀ y x, y0 ≤ y → y < y1 → 0 ≤ x → x < w → ok1 V pn y x
/-- the slice is as it must be -/
def acc (md : Int) (F : Int → Int) (fr en w y0 y1 pn : Int) (V : Int → Int) : Prop := prp V w y0 y1 pn ∧ fitV V w y0 y1 pn ∧ isD (eL md V w y0 y1 pn) F fr en
theorem unS_congr {V' : Int → Int} (h : agr V V' w y0 y1 pn) (hp : pn = 1 ∨ pn = 3) {y x : Int} (ya : y0 ≤ y) (yb : y < y1) (x0 : 0 ≤ x) (x1 : x < w) (p : Int) : unS V pn p y x = unS V' pn p y x ∧ (ok1 V pn y x ↔ ok1 V' pn y x) := by
  rcases hp with rfl | rfl
  · unfold unS ok1; rw [if_pos rfl, if_pos rfl, h 0 y x (by omega) (by omega) ya yb x0 x1]; simp
  · unfold unS ok1 unG; rw [h 0 y x (by omega) (by omega) ya yb x0 x1, h 1 y x (by omega) (by omega) ya yb x0 x1, h 2 y x (by omega) (by omega) ya yb x0 x1]; simp
theorem acc_congr {md : Int} {V' : Int → Int} (h : agr V' V w y0 y1 pn) (hp : pn = 1 ∨ pn = 3) (w0 : 1 ≤ w) (hyy : y0 ≤ y1) (ha : acc md F fr en w y0 y1 pn V) : acc md F fr en w y0 y1 pn V' := by
  refine ⟨ha.1.agr h, fun y x ya yb x0 x1 => (unS_congr h hp ya yb x0 x1 0).2.mpr (ha.2.1 y x ya yb x0 x1), ?_⟩
  rw [eL_congr h w0 hyy (by omega)]; exact ha.2.2
end S70
