/-! BOTH CODE A SLICE ALIKE; how long it can get -/
def agr (V V' : Int → Int) (w y0 y1 pn : Int) : Prop := ∀ p y x, 0 ≤ p → p < pn → y0 ≤ y → y < y1 → 0 ≤ x → x < w → V (stPl p y x) = V' (stPl p y x)
/-- values as they must be -/
def prp (V : Int → Int) (w y0 y1 pn : Int) : Prop := ∀ p y x, 0 ≤ p → p < pn → y0 ≤ y → y < y1 → 0 ≤ x → x < w → (p = 0 → 0 ≤ V (stPl p y x) ∧ V (stPl p y x) ≤ 255) ∧ -256 ≤ V (stPl p y x) ∧ V (stPl p y x) ≤ 255
theorem agr.symm {V V' : Int → Int} {w y0 y1 pn : Int} (h : agr V V' w y0 y1 pn) : agr V' V w y0 y1 pn := fun p y x h1 h2 h3 h4 h5 h6 => (h p y x h1 h2 h3 h4 h5 h6).symm
section S55
variable {V V' : Int → Int} {w y0 y1 pn p y x : Int}
theorem agr.st (h : agr V V' w y0 y1 pn) (p0 : 0 ≤ p) (p1 : p < pn) (ya : y0 ≤ y) (yb : y < y1) (x0 : 0 ≤ x) (x1 : x < w) : stG V y0 p y x = stG V' y0 p y x ∧ stK V w y0 p y x = stK V' w y0 p y x := by
  have eT : lkT V (stPl p y x) (stFr y0 y) = lkT V' (stPl p y x) (stFr y0 y) := by
    unfold lkT stFr
    by_cases hy : y = y0
    · rw [if_pos hy]; simp
    · rw [if_neg hy, if_neg (by omega), if_neg (by omega)]
      have := h p (y - 1) x p0 p1 (by omega) (by omega) x0 x1
      rw [show stPl p (y - 1) x = stPl p y x - 6 by unfold stPl; omega] at this; exact this
  have eL : lkL V (stPl p y x) x (stFr y0 y) = lkL V' (stPl p y x) x (stFr y0 y) := by
    unfold lkL
    by_cases hx : x = 0
    · rw [if_pos hx, if_pos hx, eT]
    · rw [if_neg hx, if_neg hx]
      have := h p y (x - 1) p0 p1 ya yb (by omega) (by omega)
      rw [show stPl p y (x - 1) = stPl p y x - 1 by unfold stPl; omega] at this; exact this
  have eTL : lkTL V (stPl p y x) x (stFr y0 y) = lkTL V' (stPl p y x) x (stFr y0 y) := by
    unfold lkTL
    by_cases hy : y = y0
    · have : stFr y0 y = 1 := if_pos hy
      rw [this]; simp
    · have hf : stFr y0 y = 0 := if_neg hy
      rw [hf] at eT ⊢
      simp only [show ¬ (0 : Int) = 1 by omega, if_false]
      by_cases hx : x = 0
      · rw [if_pos hx, if_pos hx, eT]
      · rw [if_neg hx, if_neg hx]
        have := h p (y - 1) (x - 1) p0 p1 (by omega) (by omega) (by omega) (by omega)
        rw [show stPl p (y - 1) (x - 1) = stPl p y x - 6 - 1 by unfold stPl; omega] at this; exact this
  have eTR : lkTR V (stPl p y x) (stFr y0 y) (stLa w x) = lkTR V' (stPl p y x) (stFr y0 y) (stLa w x) := by
    unfold lkTR
    by_cases hy : y = y0
    · have : stFr y0 y = 1 := if_pos hy
      rw [this]; simp
    · have hf : stFr y0 y = 0 := if_neg hy
      rw [hf] at eT ⊢
      simp only [show ¬ (0 : Int) = 1 by omega, if_false]
      by_cases hx : x = w - 1
      · have : stLa w x = 1 := if_pos hx
        simp only [this, if_true]; exact eT
      · have : stLa w x = 0 := if_neg hx
        simp only [this, show ¬ (0 : Int) = 1 by omega, if_false]
        have := h p (y - 1) (x + 1) p0 p1 (by omega) (by omega) (by omega) (by omega)
        rw [show stPl p (y - 1) (x + 1) = stPl p y x - 6 + 1 by unfold stPl; omega] at this; exact this
  unfold stG stK lkG lkK
  rw [eT, eL, eTL, eTR]; exact ⟨rfl, rfl⟩
theorem agr.ce (h : agr V V' w y0 y1 pn) (p0 : 0 ≤ p) (p1 : p < pn) (ya : y0 ≤ y) (yb : y < y1) (x0 : 0 ≤ x) (x1 : x < w) : stC V w y0 p y x = stC V' w y0 p y x ∧ stE V w y0 p y x = stE V' w y0 p y x := by
  have hs := h.st p0 p1 ya yb x0 x1
  have hv := h p y x p0 p1 ya yb x0 x1
  unfold stC stE stT
  rw [hs.1, hs.2, hv]; exact ⟨rfl, rfl⟩
theorem stN_self (h : prp V w y0 y1 pn) (p0 : 0 ≤ p) (p1 : p < pn) (ya : y0 ≤ y) (yb : y < y1) (x0 : 0 ≤ x) (x1 : x < w) : stN V w y0 p y x (stE V w y0 p y x) = V (stPl p y x) := by
  have hv := h p y x p0 p1 ya yb x0 x1
  have ht : stT V w y0 p y x = -1 ∨ stT V w y0 p y x = 1 := by unfold stT; split <;> omega
  unfold stN stE stW
  by_cases hp : p = 0
  · have hv0 := hv.1 hp
    rw [if_pos hp, if_pos hp]
    unfold wi0
    rcases ht with ht | ht <;> rw [ht] <;> omega
  · rw [if_neg hp, if_neg hp]
    unfold wi1
    rcases ht with ht | ht <;> rw [ht] <;> omega
variable {T : Type} {nx : T → Int → Int → T}
theorem row_col (w0 : 1 ≤ w) {i : Int} (ha : y0 * w ≤ i) (hb : i < y1 * w) : y0 ≤ i / w ∧ i / w < y1 ∧ 0 ≤ i % w ∧ i % w < w :=
  ⟨by rw [Int.le_ediv_iff_mul_le (by omega)]; omega, by rw [Int.ediv_lt_iff_lt_mul (by omega)]; omega, Int.emod_nonneg _ (by omega), Int.emod_lt_of_pos _ (by omega)⟩
theorem pF_self (h : prp V w y0 y1 pn) (w0 : 1 ≤ w) (p0 : 0 ≤ p) (p1 : p < pn) (n : Nat) : ∀ (τ : T) (i : Int), y0 * w ≤ i → i + n ≤ y1 * w → pF nx (fun _ _ e => e) w y0 p (τ, V) i n = (mF nx V w y0 p τ i n, V) := by
  induction n with
  | zero => intro τ i _ _; rfl
  | succ n ih =>
    intro τ i ha hb
    have hr := row_col (y0 := y0) (y1 := y1) w0 ha (by omega)
    show pF nx (fun _ _ e => e) w y0 p (pst nx (fun _ _ e => e) w y0 p (τ, V) (i / w) (i % w)) (i + 1) n = (mF nx V w y0 p (nx τ (stC V w y0 p (i / w) (i % w)) (stE V w y0 p (i / w) (i % w))) (i + 1) n, V)
    have hp : pst nx (fun _ _ e => e) w y0 p (τ, V) (i / w) (i % w) = (nx τ (stC V w y0 p (i / w) (i % w)) (stE V w y0 p (i / w) (i % w)), V) := by
      unfold pst; dsimp only
      rw [stN_self h p0 p1 hr.1 hr.2.1 hr.2.2.1 hr.2.2.2]
      congr 1
      funext j; unfold vset; split
      · rename_i hj; rw [hj]
      · rfl
    rw [hp, ih _ _ (by omega) (by omega)]
theorem mF_congr (h : agr V V' w y0 y1 pn) (w0 : 1 ≤ w) (p0 : 0 ≤ p) (p1 : p < pn) (n : Nat) : ∀ (τ : T) (i : Int), y0 * w ≤ i → i + n ≤ y1 * w → mF nx V w y0 p τ i n = mF nx V' w y0 p τ i n := by
  induction n with
  | zero => intro τ i _ _; rfl
  | succ n ih =>
    intro τ i ha hb
    have hr := row_col (y0 := y0) (y1 := y1) w0 ha (by omega)
    have hc := h.ce p0 p1 hr.1 hr.2.1 hr.2.2.1 hr.2.2.2
    show mF nx V w y0 p (nx τ (stC V w y0 p (i / w) (i % w)) (stE V w y0 p (i / w) (i % w))) (i + 1) n = mF nx V' w y0 p (nx τ (stC V' w y0 p (i / w) (i % w)) (stE V' w y0 p (i / w) (i % w))) (i + 1) n
    rw [hc.1, hc.2, ih _ _ (by omega) (by omega)]
theorem cnt_eq (w0 : 1 ≤ w) (hyy : y0 ≤ y1) : y0 * w + ((y1 - y0).toNat * w.toNat : Nat) = y1 * w := by
  rw [Int.natCast_mul, Int.toNat_of_nonneg (by omega), Int.toNat_of_nonneg (by omega), Int.sub_mul]; omega
theorem pA_self (h : prp V w y0 y1 pn) (w0 : 1 ≤ w) (hyy : y0 ≤ y1) (n : Nat) : ∀ (τ : T) (p : Int), 0 ≤ p → p + n ≤ pn → pA nx (fun _ _ e => e) w y0 y1 (τ, V) p n = (mA nx V w y0 y1 τ p n, V) := by
  have hc := cnt_eq (y0 := y0) (y1 := y1) w0 hyy
  induction n with
  | zero => intro τ p _ _; rfl
  | succ n ih =>
    intro τ p p0 p1
    show pA nx (fun _ _ e => e) w y0 y1 (pF nx (fun _ _ e => e) w y0 p (τ, V) (y0 * w) ((y1 - y0).toNat * w.toNat)) (p + 1) n = _
    rw [pF_self h w0 p0 (by omega) _ τ (y0 * w) (by omega) (by omega), ih _ _ (by omega) (by omega)]
    rfl
theorem mA_congr (h : agr V V' w y0 y1 pn) (w0 : 1 ≤ w) (hyy : y0 ≤ y1) (n : Nat) : ∀ (τ : T) (p : Int), 0 ≤ p → p + n ≤ pn → mA nx V w y0 y1 τ p n = mA nx V' w y0 y1 τ p n := by
  have hc := cnt_eq (y0 := y0) (y1 := y1) w0 hyy
  induction n with
  | zero => intro τ p _ _; rfl
  | succ n ih =>
    intro τ p p0 p1
    show mA nx V w y0 y1 (mF nx V w y0 p τ (y0 * w) ((y1 - y0).toNat * w.toNat)) (p + 1) n = mA nx V' w y0 y1 (mF nx V' w y0 p τ (y0 * w) ((y1 - y0).toNat * w.toNat)) (p + 1) n
    rw [mF_congr h w0 p0 (by omega) _ τ (y0 * w) (by omega) (by omega), ih _ _ (by omega) (by omega)]
-- mode 0: how many bits
def bB (σ : bS) : Int := 8 * (σ.2.2.2.1 : Int) - σ.2.2.2.2
theorem bw_B {σ : bS} (h : bI σ) (b : Int) : bB (bw σ b) = bB σ + 1 := by
  unfold bw bB; split
  · rename_i h0; dsimp only; rw [h0]; omega
  · dsimp only; omega
theorem bZ_B (r : Nat) : ∀ {σ : bS}, bI σ → bB (bZ σ r) = bB σ + r := by
  induction r with
  | zero => intro σ h; show bB σ = _; omega
  | succ r ih => intro σ h; show bB (bZ (bw σ 0) r) = _; rw [ih (bw_I h (.inl rfl)), bw_B h]; omega
theorem bD_B {m : Int} (r : Nat) : ∀ {σ : bS}, bI σ → bB (bD σ m r) = bB σ + r := by
  induction r with
  | zero => intro σ h; show bB σ = _; omega
  | succ r ih => intro σ h; show bB (bD (bw σ (m / 2 ^ r % 2)) m r) = _; rw [ih (bw_I h (by omega)), bw_B h]; omega
theorem bL_B (σ : bS) (c e : Int) : bB (bL σ c e) = bB σ := by unfold bL bB; split <;> rfl
theorem bE_B {σ : bS} (h : bI σ) (c e : Int) (e0 : -256 ≤ e) (e1 : e ≤ 255) : bB (bE σ c e) ≤ bB σ + 21 := by
  have hl := low_le (σ.1 c) (σ.2.1 c)
  have hz : 0 ≤ zig e := by unfold zig; split <;> omega
  unfold bE; split
  · rename_i hw
    have hq := div_bound hz (low (σ.1 c) (σ.2.1 c))
    rw [bL_B, bD_B _ (bw_I (bZ_I _ h) (.inr rfl)), bw_B (bZ_I _ h), bZ_B _ h]; omega
  · rw [bL_B, bD_B _ (bZ_I _ h), bZ_B _ h]; omega
theorem stE_bd (V : Int → Int) (w y0 p y x : Int) : -256 ≤ stE V w y0 p y x ∧ stE V w y0 p y x ≤ 255 := by
  unfold stE stW
  have := wi_bd (stT V w y0 p y x * (V (stPl p y x) - stG V y0 p y x))
  split <;> omega
theorem mO_b (n : Nat) : ∀ (τ : bS) (i : Int), bI τ → bB τ + 21 * n ≤ 2268 → mO (fun σ => σ.2.2.2.1 + 30 ≤ 1400) bE V w y0 p τ i n ∧ bI (mF bE V w y0 p τ i n) ∧ bB (mF bE V w y0 p τ i n) ≤ bB τ + 21 * n := by
  induction n with
  | zero => intro τ i h hb; exact ⟨trivial, h, by show bB τ ≤ _; omega⟩
  | succ n ih =>
    intro τ i h hb
    have he := stE_bd V w y0 p (i / w) (i % w)
    have h1 := bE_I h (c := stC V w y0 p (i / w) (i % w)) he.1 (by omega : stE V w y0 p (i / w) (i % w) ≤ 256)
    have h2 := bE_B h (stC V w y0 p (i / w) (i % w)) _ he.1 he.2
    have h3 := ih (bE τ (stC V w y0 p (i / w) (i % w)) (stE V w y0 p (i / w) (i % w))) (i + 1) h1 (by omega)
    refine ⟨⟨?_, h3.1⟩, h3.2.1, ?_⟩
    · have hl := h.2.2.1; have hl2 := h.2.2.2.1
      unfold bB at hb; omega
    · show bB (mF bE V w y0 p (bE τ (stC V w y0 p (i / w) (i % w)) (stE V w y0 p (i / w) (i % w))) (i + 1) n) ≤ _
      have := h3.2.2; omega
theorem mOA_b {N : Nat} (hN : (y1 - y0).toNat * w.toNat = N) (n : Nat) : ∀ (τ : bS) (p : Int), bI τ → bB τ + 21 * (n * N : Nat) ≤ 2268 → mOA (fun σ => σ.2.2.2.1 + 30 ≤ 1400) bE V w y0 y1 τ p n ∧ bI (mA bE V w y0 y1 τ p n) ∧ bB (mA bE V w y0 y1 τ p n) ≤ bB τ + 21 * (n * N : Nat) := by
  induction n with
  | zero => intro τ p h hb; exact ⟨trivial, h, by show bB τ ≤ _; omega⟩
  | succ n ih =>
    intro τ p h hb
    have e : (n + 1) * N = n * N + N := Nat.succ_mul n N
    rw [e] at hb ⊢
    have h1 := mO_b (V := V) (w := w) (y0 := y0) (p := p) N τ (y0 * w) h (by omega)
    have h2 := ih (mF bE V w y0 p τ (y0 * w) N) (p + 1) h1.2.1 (by omega)
    unfold mOA mA
    rw [hN]
    exact ⟨⟨h1.1, h2.1⟩, h2.2.1, by omega⟩
-- mode 1: how many digits
def rQ (σ : rS) (D : Nat) : Prop := (256 : Int) ^ σ.2.2.2 * 65280 ≤ σ.2.1 * 20 ^ D * 65536
theorem rQ_step {R R1 A K : Int} (h20 : R ≤ 20 * R1) (hK : 0 ≤ K) (h : A ≤ R * K * 65536) : A ≤ R1 * (K * 20) * 65536 := by
  have h1 : R * K ≤ 20 * R1 * K := Int.mul_le_mul_of_nonneg_right h20 hK
  have h2 : R1 * (K * 20) = 20 * R1 * K := by rw [Int.mul_comm K 20, ← Int.mul_assoc, Int.mul_comm R1 20]
  rw [h2]; omega
theorem rb_Q {σ : rS} (h : rI σ) {D : Nat} (hq : rQ σ D) (pl b : Int) : rQ (rb σ pl b) (D + 1) := by
  obtain ⟨T, R, X, n⟩ := σ
  obtain ⟨h1, h2, h3, -, -⟩ := h
  have hs := h3 pl
  dsimp only at h1 h2 hs
  unfold rQ at hq ⊢
  dsimp only at hq
  have ha : R * 15 ≤ R * T pl := Int.mul_le_mul_of_nonneg_left hs.1 (by omega)
  have hb : R * T pl ≤ R * 241 := Int.mul_le_mul_of_nonneg_left hs.2 (by omega)
  have hH : R ≤ 20 * (R * T pl / 256) ∧ R ≤ 20 * (R - R * T pl / 256) := by
    generalize R * T pl = q at ha hb
    omega
  have hK : (0 : Int) ≤ 20 ^ D := Int.le_of_lt (Int.pow_pos (by omega))
  have hp : (256 : Int) ^ (n + 1) = 256 ^ n * 256 := Int.pow_succ _ _
  unfold rb
  simp only [show rH (T, R, X, n) pl = R * T pl / 256 from rfl]
  rw [Int.pow_succ]
  by_cases hbb : b = 1
  · simp only [hbb, if_true]
    have := rQ_step hH.1 hK hq
    split
    · dsimp only
      rw [hp]
      generalize (256 : Int) ^ n = u at *
      have e : R * T pl / 256 * 256 * (20 ^ D * 20) * 65536 = 256 * (R * T pl / 256 * (20 ^ D * 20) * 65536) := by
        rw [Int.mul_assoc (R * T pl / 256) 256, Int.mul_left_comm (R * T pl / 256) 256, Int.mul_assoc 256]
      rw [e]; omega
    · exact this
  · simp only [hbb, if_false]
    have := rQ_step hH.2 hK hq
    split
    · dsimp only
      rw [hp]
      generalize (256 : Int) ^ n = u at *
      have e : (R - R * T pl / 256) * 256 * (20 ^ D * 20) * 65536 = 256 * ((R - R * T pl / 256) * (20 ^ D * 20) * 65536) := by
        rw [Int.mul_assoc (R - R * T pl / 256) 256, Int.mul_left_comm (R - R * T pl / 256) 256, Int.mul_assoc 256]
      rw [e]; omega
    · exact this
theorem rQ_mono {σ : rS} (h : rI σ) {D E : Nat} (hq : rQ σ D) (hDE : D ≤ E) : rQ σ E := by
  obtain ⟨k, rfl⟩ := Nat.exists_eq_add_of_le hDE
  induction k with
  | zero => exact hq
  | succ k ih =>
    have h1 := ih (by omega)
    unfold rQ at h1 ⊢
    have hR := h.1
    have := rQ_step (R1 := σ.2.1) (R := σ.2.1) (by omega) (Int.le_of_lt (Int.pow_pos (by omega))) h1
    rw [show D + (k + 1) = (D + k) + 1 by omega, Int.pow_succ]; exact this
theorem rUp_Q {p : Int} (r : Nat) : ∀ {σ : rS} {D : Nat} (i : Int), rI σ → rQ σ D → rQ (rUp σ p r i) (D + r + 1) := by
  induction r with
  | zero => intro σ D i h hq; unfold rUp; split
            · exact rb_Q h hq _ _
            · exact rQ_mono h hq (by omega)
  | succ r ih => intro σ D i h hq
                 have := ih (i + 1) (rb_I h (p + 1 + i) 1) (rb_Q h hq (p + 1 + i) 1)
                 rw [show D + (r + 1) + 1 = D + 1 + r + 1 by omega]; exact this
theorem rDn_Q {p av : Int} (r : Nat) : ∀ {σ : rS} {D : Nat}, rI σ → rQ σ D → rQ (rDn σ p av r) (D + r) := by
  induction r with
  | zero => intro σ D h hq; exact hq
  | succ r ih => intro σ D h hq
                 have := ih (rb_I h (p + 10 + r) (av / 2 ^ r % 2)) (rb_Q h hq (p + 10 + r) (av / 2 ^ r % 2))
                 rw [show D + (r + 1) = D + 1 + r by omega]; exact this
theorem rE_Q {σ : rS} (h : rI σ) {D : Nat} (hq : rQ σ D) (c e : Int) (e0 : -256 ≤ e) (e1 : e ≤ 256) : rQ (rE σ c e) (D + 19) := by
  unfold rE; split
  · exact rQ_mono (rb_I h _ _) (rb_Q h hq _ _) (by omega)
  · rename_i hz
    obtain ⟨av, hav⟩ : ∃ av, (if e < 0 then -e else e) = av := ⟨_, rfl⟩
    rw [hav]
    have h1 : 1 ≤ av := by rw [← hav]; split <;> omega
    have h2 : av ≤ 256 := by rw [← hav]; split <;> omega
    have h8 := lg2_8 h1 h2
    have a1 := rb_Q h hq (c * 19) 0
    have i1 := rb_I h (c * 19) 0
    have a2 := rUp_Q (p := c * 19) (lg2 av) 0 i1 a1
    have i2 := rUp_I (p := c * 19) (lg2 av) 0 i1
    have a3 := rDn_Q (p := c * 19) (av := av) (lg2 av) i2 a2
    have i3 := rDn_I (p := c * 19) (av := av) (lg2 av) i2
    have a4 := rb_Q i3 a3 (c * 19 + 18) (if e < 0 then 1 else 0)
    exact rQ_mono (rb_I i3 _ _) a4 (by omega)
theorem rQ_n {σ : rS} (h : rI σ) {D : Nat} (hq : rQ σ D) (hD : D ≤ 2052) : σ.2.2.2 ≤ 1200 := by
  have h1 := rQ_mono h hq hD
  unfold rQ at h1
  have hR := h.2.1
  have hK : (0 : Int) ≤ 20 ^ 2052 := Int.le_of_lt (Int.pow_pos (by omega))
  have h2 : σ.2.1 * 20 ^ 2052 ≤ 65280 * 20 ^ 2052 := Int.mul_le_mul_of_nonneg_right hR hK
  have h3 : (256 : Int) ^ σ.2.2.2 ≤ 20 ^ 2052 * 65536 := by
    generalize (20 : Int) ^ 2052 = K at *
    generalize (256 : Int) ^ σ.2.2.2 = u at *
    generalize σ.2.1 * K = q at *
    omega
  have h4 : (20 : Nat) ^ 2052 * 65536 ≤ 256 ^ 1200 := by
    have a1 : (20 : Nat) ^ 2052 = (20 ^ 9) ^ 228 := by rw [← Nat.pow_mul]
    have a2 : ((20 : Nat) ^ 9) ^ 228 ≤ (256 ^ 5) ^ 228 := Nat.pow_le_pow_left (by decide) _
    have a3 : ((256 : Nat) ^ 5) ^ 228 = 256 ^ 1140 := by rw [← Nat.pow_mul]
    have a4 : (256 : Nat) ^ 1200 = 256 ^ 1140 * 256 ^ 60 := by rw [← Nat.pow_add]
    have a5 : (65536 : Nat) ≤ 256 ^ 60 := Nat.le_trans (by decide : (65536 : Nat) ≤ 256 ^ 2) (Nat.pow_le_pow_right (by omega) (by omega))
    rw [a1, a4]
    rw [a3] at a2
    exact Nat.mul_le_mul a2 a5
  have h5 : (256 : Nat) ^ σ.2.2.2 ≤ 256 ^ 1200 := by
    have e1 : ((256 ^ σ.2.2.2 : Nat) : Int) = (256 : Int) ^ σ.2.2.2 := by rw [Int.natCast_pow]; rfl
    have e2 : ((20 ^ 2052 * 65536 : Nat) : Int) = (20 : Int) ^ 2052 * 65536 := by rw [Int.natCast_mul, Int.natCast_pow]; rfl
    have : (256 ^ σ.2.2.2 : Nat) ≤ 20 ^ 2052 * 65536 := by
      apply Int.ofNat_le.mp
      rw [e1, e2]; exact h3
    exact Nat.le_trans this h4
  exact (Nat.pow_le_pow_iff_right (by omega)).mp h5
theorem mO_r (n : Nat) : ∀ (τ : rS) (i : Int) (D : Nat), rI τ → rQ τ D → D + 19 * n ≤ 2052 → mO (fun σ => σ.2.2.2 + 30 ≤ 1400) rE V w y0 p τ i n ∧ rI (mF rE V w y0 p τ i n) ∧ rQ (mF rE V w y0 p τ i n) (D + 19 * n) := by
  induction n with
  | zero => intro τ i D h hq hb; exact ⟨trivial, h, hq⟩
  | succ n ih =>
    intro τ i D h hq hb
    have he := stE_bd V w y0 p (i / w) (i % w)
    have h1 := rE_I h (c := stC V w y0 p (i / w) (i % w)) (e := stE V w y0 p (i / w) (i % w))
    have h2 := rE_Q h hq (stC V w y0 p (i / w) (i % w)) (stE V w y0 p (i / w) (i % w)) he.1 (by omega)
    have h3 := ih (rE τ (stC V w y0 p (i / w) (i % w)) (stE V w y0 p (i / w) (i % w))) (i + 1) (D + 19) h1 h2 (by omega)
    refine ⟨⟨?_, h3.1⟩, h3.2.1, ?_⟩
    · have := rQ_n h hq (by omega); omega
    · have := h3.2.2; rw [show D + 19 + 19 * n = D + 19 * (n + 1) by omega] at this; exact this
theorem mOA_r {N : Nat} (hN : (y1 - y0).toNat * w.toNat = N) (n : Nat) : ∀ (τ : rS) (p : Int) (D : Nat), rI τ → rQ τ D → D + 19 * (n * N) ≤ 2052 → mOA (fun σ => σ.2.2.2 + 30 ≤ 1400) rE V w y0 y1 τ p n ∧ rI (mA rE V w y0 y1 τ p n) ∧ rQ (mA rE V w y0 y1 τ p n) (D + 19 * (n * N)) := by
  induction n with
  | zero => intro τ p D h hq hb; exact ⟨trivial, h, by rw [Nat.zero_mul]; exact hq⟩
  | succ n ih =>
    intro τ p D h hq hb
    have e : (n + 1) * N = n * N + N := Nat.succ_mul n N
    rw [e] at hb ⊢
    have h1 := mO_r (V := V) (w := w) (y0 := y0) (p := p) N τ (y0 * w) D h hq (by omega)
    have h2 := ih (mF rE V w y0 p τ (y0 * w) N) (p + 1) (D + 19 * N) h1.2.1 h1.2.2 (by omega)
    unfold mOA mA
    rw [hN]
    refine ⟨⟨h1.1, h2.1⟩, h2.2.1, ?_⟩
    have := h2.2.2; rw [show D + 19 * N + 19 * (n * N) = D + 19 * (n * N + N) by omega] at this; exact this
end S55
