/-! A SLICE IS READ: what holds for any coder that reads -/
section S62
variable {T E : Type} {P : T → Int → Int → Prop} {nx : T → Int → Int → T} {ou : T → Int → Int → Int} {w y0 y1 p pn : Int} {V : Int → Int}
theorem pO_cnt {cnt : T → Nat} {K M : Nat} (hP : ∀ τ c e, cnt τ ≤ M → P τ c e) (hnx : ∀ τ c e, cnt (nx τ c e) ≤ cnt τ + K) (n : Nat) : ∀ (s : T × (Int → Int)) (i : Int), cnt s.1 + K * n ≤ M → pO P nx ou w y0 p s i n ∧ cnt (pF nx ou w y0 p s i n).1 ≤ cnt s.1 + K * n := by
  induction n with
  | zero => intro s i h; exact ⟨trivial, by show cnt s.1 ≤ _; omega⟩
  | succ n ih =>
    intro s i h
    have h1 := hnx s.1 (stC s.2 w y0 p (i / w) (i % w)) (stE s.2 w y0 p (i / w) (i % w))
    have he : K * (n + 1) = K * n + K := Nat.mul_succ _ _
    have h2 := ih (pst nx ou w y0 p s (i / w) (i % w)) (i + 1) (by show cnt (nx s.1 _ _) + K * n ≤ M; omega)
    refine ⟨⟨hP _ _ _ (by omega), h2.1⟩, Nat.le_trans h2.2 ?_⟩
    show cnt (nx s.1 _ _) + K * n ≤ _
    omega
theorem pOA_cnt {cnt : T → Nat} {K M N : Nat} (hP : ∀ τ c e, cnt τ ≤ M → P τ c e) (hnx : ∀ τ c e, cnt (nx τ c e) ≤ cnt τ + K) (hN : (y1 - y0).toNat * w.toNat = N) (n : Nat) : ∀ (s : T × (Int → Int)) (p : Int), cnt s.1 + K * (n * N) ≤ M → pOA P nx ou w y0 y1 s p n ∧ cnt (pA nx ou w y0 y1 s p n).1 ≤ cnt s.1 + K * (n * N) := by
  induction n with
  | zero => intro s p h; exact ⟨trivial, by show cnt s.1 ≤ _; omega⟩
  | succ n ih =>
    intro s p h
    have he : K * ((n + 1) * N) = K * (n * N) + K * N := by rw [Nat.succ_mul, Nat.mul_add]
    have h1 := pO_cnt (P := P) (nx := nx) (ou := ou) (w := w) (y0 := y0) (p := p) hP hnx N s (y0 * w) (by omega)
    have h2 := ih (pF nx ou w y0 p s (y0 * w) N) (p + 1) (by omega)
    unfold pOA pA
    rw [hN]
    exact ⟨⟨h1.1, h2.1⟩, by omega⟩
def okc (p v : Int) : Prop := (p = 0 → 0 ≤ v ∧ v ≤ 255) ∧ -256 ≤ v ∧ v ≤ 255
theorem stN_ok (V : Int → Int) (w y0 p y x o : Int) : okc p (stN V w y0 p y x o) := by
  refine ⟨fun h => ?_, stN_bd V w y0 p y x o⟩
  unfold stN; rw [if_pos h]; omega
theorem stPl_inj {p p' y x y' x' : Int} (hy0 : 0 ≤ y) (hy : y < 6) (x0 : 0 ≤ x) (x1 : x < 6) (hy0' : 0 ≤ y') (hy' : y' < 6) (x0' : 0 ≤ x') (x1' : x' < 6) (h : stPl p y x = stPl p' y' x') : p = p' ∧ y = y' ∧ x = x' := by
  unfold stPl at h; omega
/-- the places of a plane from the i-th on -/
theorem pF_prp (w0 : 1 ≤ w) (w1 : w ≤ 6) (hy0 : 0 ≤ y0) (hy1 : y1 ≤ 6) (n : Nat) : ∀ (s : T × (Int → Int)) (i : Int), y0 * w ≤ i → i + n ≤ y1 * w →
    (∀ y x, y0 ≤ y → y < y1 → 0 ≤ x → x < w → i ≤ y * w + x → y * w + x < i + n → okc p ((pF nx ou w y0 p s i n).2 (stPl p y x))) ∧
    (∀ j, (∀ y x, y0 ≤ y → y < y1 → 0 ≤ x → x < w → i ≤ y * w + x → y * w + x < i + n → j ≠ stPl p y x) → (pF nx ou w y0 p s i n).2 j = s.2 j) := by
  induction n with
  | zero => intro s i ha hb; exact ⟨fun y x _ _ _ _ h1 h2 => by omega, fun j _ => rfl⟩
  | succ n ih =>
    intro s i ha hb
    have hr := row_col (y0 := y0) (y1 := y1) w0 ha (by omega)
    have hi : i / w * w + i % w = i := by have := Int.mul_ediv_add_emod i w; rw [Int.mul_comm] at this; exact this
    obtain ⟨k1, k2⟩ := ih (pst nx ou w y0 p s (i / w) (i % w)) (i + 1) (by omega) (by omega)
    refine ⟨fun y x ya yb x0 x1 h1 h2 => ?_, fun j hj => ?_⟩
    · show okc p ((pF nx ou w y0 p (pst nx ou w y0 p s (i / w) (i % w)) (i + 1) n).2 (stPl p y x))
      by_cases hc : y * w + x = i
      · have hyx : i / w = y ∧ i % w = x := by
          rw [← hc]
          constructor
          · rw [Int.add_comm, Int.add_mul_ediv_right _ _ (by omega), Int.ediv_eq_zero_of_lt x0 (by omega)]; omega
          · rw [Int.add_comm, Int.add_mul_emod_self_right]; exact Int.emod_eq_of_lt x0 (by omega)
        rw [k2 (stPl p y x) (fun y' x' ya' yb' x0' x1' h1' h2' he => ?_)]
        · unfold pst; dsimp only; rw [hyx.1, hyx.2]; unfold vset; rw [if_pos rfl]; exact stN_ok _ _ _ _ _ _ _
        · have := stPl_inj (by omega) (by omega) x0 (by omega) (by omega) (by omega) x0' (by omega) he
          rw [← this.2.1, ← this.2.2] at h1'; omega
      · exact k1 y x ya yb x0 x1 (by omega) (by omega)
    · show (pF nx ou w y0 p (pst nx ou w y0 p s (i / w) (i % w)) (i + 1) n).2 j = s.2 j
      rw [k2 j (fun y x ya yb x0 x1 h1 h2 => hj y x ya yb x0 x1 (by omega) (by omega))]
      unfold pst; dsimp only; unfold vset
      rw [if_neg (hj _ _ hr.1 hr.2.1 hr.2.2.1 hr.2.2.2 (by omega) (by omega))]
theorem pA_prp (w0 : 1 ≤ w) (w1 : w ≤ 6) (hy0 : 0 ≤ y0) (hyy : y0 ≤ y1) (hy1 : y1 ≤ 6) (n : Nat) : ∀ (s : T × (Int → Int)) (p : Int), 0 ≤ p →
    (∀ q y x, p ≤ q → q < p + n → y0 ≤ y → y < y1 → 0 ≤ x → x < w → okc q ((pA nx ou w y0 y1 s p n).2 (stPl q y x))) ∧
    (∀ j, (∀ q y x, p ≤ q → q < p + n → y0 ≤ y → y < y1 → 0 ≤ x → x < w → j ≠ stPl q y x) → (pA nx ou w y0 y1 s p n).2 j = s.2 j) := by
  have hc := cnt_eq (y0 := y0) (y1 := y1) w0 hyy
  induction n with
  | zero => intro s p p0; exact ⟨fun q y x h1 h2 => by omega, fun j _ => rfl⟩
  | succ n ih =>
    intro s p p0
    obtain ⟨k1, k2⟩ := ih (pF nx ou w y0 p s (y0 * w) ((y1 - y0).toNat * w.toNat)) (p + 1) (by omega)
    obtain ⟨m1, m2⟩ := pF_prp (T := T) (nx := nx) (ou := ou) (p := p) w0 w1 hy0 hy1 ((y1 - y0).toNat * w.toNat) s (y0 * w) (by omega) (by omega)
    have hlo : ∀ y x : Int, y0 ≤ y → 0 ≤ x → y0 * w ≤ y * w + x := fun y x h1 h2 => by
      have := Int.mul_le_mul_of_nonneg_right h1 (by omega : 0 ≤ w); omega
    have hhi : ∀ y x : Int, y < y1 → x < w → y * w + x < y1 * w := fun y x h1 h2 => by
      have := Int.mul_le_mul_of_nonneg_right (show y + 1 ≤ y1 by omega) (by omega : 0 ≤ w); rw [Int.add_mul] at this; omega
    refine ⟨fun q y x q0 q1 ya yb x0 x1 => ?_, fun j hj => ?_⟩
    · show okc q ((pA nx ou w y0 y1 (pF nx ou w y0 p s (y0 * w) ((y1 - y0).toNat * w.toNat)) (p + 1) n).2 (stPl q y x))
      by_cases hq : q = p
      · subst hq
        rw [k2 _ (fun q' y' x' h1 h2 h3 h4 h5 h6 he => by have := stPl_inj (by omega) (by omega) x0 (by omega) (by omega) (by omega) h5 (by omega) he; omega)]
        exact m1 y x ya yb x0 x1 (hlo y x ya x0) (by rw [hc]; exact hhi y x yb x1)
      · exact k1 q y x (by omega) (by omega) ya yb x0 x1
    · show (pA nx ou w y0 y1 (pF nx ou w y0 p s (y0 * w) ((y1 - y0).toNat * w.toNat)) (p + 1) n).2 j = s.2 j
      rw [k2 j (fun q y x h1 h2 h3 h4 h5 h6 => hj q y x (by omega) (by omega) h3 h4 h5 h6), m2 j (fun y x h3 h4 h5 h6 _ _ => hj p y x (by omega) (by omega) h3 h4 h5 h6)]
theorem pA_prp' (w0 : 1 ≤ w) (w1 : w ≤ 6) (hy0 : 0 ≤ y0) (hyy : y0 ≤ y1) (hy1 : y1 ≤ 6) (p0 : 0 ≤ pn) (s : T × (Int → Int)) : prp (pA nx ou w y0 y1 s 0 pn.toNat).2 w y0 y1 pn := fun q y x q0 q1 ya yb x0 x1 =>
  (pA_prp (T := T) (nx := nx) (ou := ou) w0 w1 hy0 hyy hy1 pn.toNat s 0 (by omega)).1 q y x q0 (by omega) ya yb x0 x1
/-- the look sees what was before alone -/
theorem st_before {V V' : Int → Int} {y x : Int} (w0 : 1 ≤ w) (x0 : 0 ≤ x) (x1 : x < w) (ya : y0 ≤ y) (h : ∀ y' x', y0 ≤ y' → y' ≤ y → 0 ≤ x' → x' < w → y' * w + x' < y * w + x → V (stPl p y' x') = V' (stPl p y' x')) : stG V y0 p y x = stG V' y0 p y x ∧ stK V w y0 p y x = stK V' w y0 p y x := by
  have hm : (y - 1) * w = y * w - w := by rw [Int.sub_mul, Int.one_mul]
  have eT : lkT V (stPl p y x) (stFr y0 y) = lkT V' (stPl p y x) (stFr y0 y) := by
    unfold lkT stFr
    by_cases hy : y = y0
    · rw [if_pos hy]; simp
    · rw [if_neg hy, if_neg (by omega), if_neg (by omega)]
      have := h (y - 1) x (by omega) (by omega) x0 x1 (by omega)
      rw [show stPl p (y - 1) x = stPl p y x - 6 by unfold stPl; omega] at this; exact this
  have eL : lkL V (stPl p y x) x (stFr y0 y) = lkL V' (stPl p y x) x (stFr y0 y) := by
    unfold lkL
    by_cases hx : x = 0
    · rw [if_pos hx, if_pos hx, eT]
    · rw [if_neg hx, if_neg hx]
      have := h y (x - 1) ya (by omega) (by omega) (by omega) (by omega)
      rw [show stPl p y (x - 1) = stPl p y x - 1 by unfold stPl; omega] at this; exact this
  have eTL : lkTL V (stPl p y x) x (stFr y0 y) = lkTL V' (stPl p y x) x (stFr y0 y) := by
    unfold lkTL
    by_cases hy : y = y0
    · have : stFr y0 y = 1 := if_pos hy
      rw [this]; simp
    · have hf : stFr y0 y = 0 := if_neg hy
      rw [hf] at eT ⊢
      simp only [show ¬ (0 : Int) = 1 by omega, if_false]
      by_cases hx : x = 0
      · rw [if_pos hx, if_pos hx, eT]
      · rw [if_neg hx, if_neg hx]
        have := h (y - 1) (x - 1) (by omega) (by omega) (by omega) (by omega) (by omega)
        rw [show stPl p (y - 1) (x - 1) = stPl p y x - 6 - 1 by unfold stPl; omega] at this; exact this
  have eTR : lkTR V (stPl p y x) (stFr y0 y) (stLa w x) = lkTR V' (stPl p y x) (stFr y0 y) (stLa w x) := by
    unfold lkTR
    by_cases hy : y = y0
    · have : stFr y0 y = 1 := if_pos hy
      rw [this]; simp
    · have hf : stFr y0 y = 0 := if_neg hy
      rw [hf] at eT ⊢
      simp only [show ¬ (0 : Int) = 1 by omega, if_false]
      by_cases hx : x = w - 1
      · have : stLa w x = 1 := if_pos hx
        simp only [this, if_true]; exact eT
      · have : stLa w x = 0 := if_neg hx
        simp only [this, show ¬ (0 : Int) = 1 by omega, if_false]
        have := h (y - 1) (x + 1) (by omega) (by omega) (by omega) (by omega) (by omega)
        rw [show stPl p (y - 1) (x + 1) = stPl p y x - 6 + 1 by unfold stPl; omega] at this; exact this
  unfold stG stK lkG lkK
  rw [eT, eL, eTL, eTR]; exact ⟨rfl, rfl⟩
theorem stC_bd (V : Int → Int) (w y0 p y x : Int) : 0 ≤ stC V w y0 p y x ∧ stC V w y0 p y x < 126 ∧ (stC V w y0 p y x < 63 ↔ p = 0) := by
  have hK : -62 ≤ stK V w y0 p y x ∧ stK V w y0 p y x ≤ 62 := lkK_bd _ _ _ _ _
  unfold stC stT
  by_cases hp : p = 0
  · rw [if_pos hp]; split <;> omega
  · rw [if_neg hp]; split <;> omega
theorem stE_bd3 (V : Int → Int) (w y0 p y x : Int) : -256 ≤ stE V w y0 p y x ∧ stE V w y0 p y x ≤ 255 ∧ (p = 0 → -128 ≤ stE V w y0 p y x ∧ stE V w y0 p y x ≤ 127) := by
  unfold stE stW
  have := wi_bd (stT V w y0 p y x * (V (stPl p y x) - stG V y0 p y x))
  split <;> omega
/-- what is asked of a reader: it gives back what was written, as long as what lies before it is what was written -/
def rdr (nxE : E → Int → Int → E) (nx : T → Int → Int → T) (ou : T → Int → Int → Int) (IE : E → Prop) (Rel : E → T → Prop) (pre : E → Prop) : Prop :=
  (∀ σ c e, IE σ → 0 ≤ c → c < 126 → -256 ≤ e → e ≤ 255 → IE (nxE σ c e)) ∧
  (∀ σ c e, IE σ → 0 ≤ c → c < 126 → -256 ≤ e → e ≤ 255 → pre (nxE σ c e) → pre σ) ∧
  (∀ σ τ c e e', IE σ → 0 ≤ c → c < 126 → -256 ≤ e → e ≤ 255 → (c < 63 → -128 ≤ e ∧ e ≤ 127) → Rel σ τ → pre (nxE σ c e) → ou τ c e' = e ∧ Rel (nxE σ c e) (nx τ c e'))
variable {nxE : E → Int → Int → E} {IE : E → Prop} {Rel : E → T → Prop} {pre : E → Prop}
theorem mF_pre (hR : rdr nxE nx ou IE Rel pre) (n : Nat) : ∀ (σ : E) (i : Int), IE σ → IE (mF nxE V w y0 p σ i n) ∧ (pre (mF nxE V w y0 p σ i n) → pre σ) := by
  induction n with
  | zero => intro σ i h; exact ⟨h, id⟩
  | succ n ih =>
    intro σ i h
    have hc := stC_bd V w y0 p (i / w) (i % w)
    have he := stE_bd3 V w y0 p (i / w) (i % w)
    have h1 := hR.1 σ _ _ h hc.1 hc.2.1 he.1 he.2.1
    have h2 := ih _ (i + 1) h1
    exact ⟨h2.1, fun h3 => hR.2.1 σ _ _ h hc.1 hc.2.1 he.1 he.2.1 (h2.2 h3)⟩
theorem mA_pre (hR : rdr nxE nx ou IE Rel pre) (n : Nat) : ∀ (σ : E) (p : Int), IE σ → IE (mA nxE V w y0 y1 σ p n) ∧ (pre (mA nxE V w y0 y1 σ p n) → pre σ) := by
  induction n with
  | zero => intro σ i h; exact ⟨h, id⟩
  | succ n ih =>
    intro σ p h
    have h1 := mF_pre (V := V) (w := w) (y0 := y0) (p := p) hR ((y1 - y0).toNat * w.toNat) σ (y0 * w) h
    have h2 := ih (mF nxE V w y0 p σ (y0 * w) ((y1 - y0).toNat * w.toNat)) (p + 1) h1.1
    exact ⟨h2.1, fun h3 => h1.2 (h2.2 h3)⟩
theorem pF_dec (hR : rdr nxE nx ou IE Rel pre) (hp : prp V w y0 y1 pn) (w0 : 1 ≤ w) (w1 : w ≤ 6) (hy0 : 0 ≤ y0) (hy1 : y1 ≤ 6) (p0 : 0 ≤ p) (p1 : p < pn) (n : Nat) : ∀ (σ : E) (τ : T) (V' : Int → Int) (i : Int), y0 * w ≤ i → i + n ≤ y1 * w → IE σ → Rel σ τ → pre (mF nxE V w y0 p σ i n) →
    (∀ y x, y0 ≤ y → y < y1 → 0 ≤ x → x < w → y * w + x < i → V' (stPl p y x) = V (stPl p y x)) →
    Rel (mF nxE V w y0 p σ i n) (pF nx ou w y0 p (τ, V') i n).1 ∧ (∀ y x, y0 ≤ y → y < y1 → 0 ≤ x → x < w → y * w + x < i + n → (pF nx ou w y0 p (τ, V') i n).2 (stPl p y x) = V (stPl p y x)) := by
  induction n with
  | zero => intro σ τ V' i ha hb hI hRl hpr hV; exact ⟨hRl, fun y x h1 h2 h3 h4 h5 => hV y x h1 h2 h3 h4 (by omega)⟩
  | succ n ih =>
    intro σ τ V' i ha hb hI hRl hpr hV
    have hr := row_col (y0 := y0) (y1 := y1) w0 ha (by omega)
    have hi : i / w * w + i % w = i := by have := Int.mul_ediv_add_emod i w; rw [Int.mul_comm] at this; exact this
    obtain ⟨y, hy⟩ : ∃ y, i / w = y := ⟨_, rfl⟩
    obtain ⟨x, hx⟩ : ∃ x, i % w = x := ⟨_, rfl⟩
    rw [hy, hx] at hr hi
    have hc := stC_bd V w y0 p y x
    have he := stE_bd3 V w y0 p y x
    have hpr' : pre (mF nxE V w y0 p (nxE σ (stC V w y0 p y x) (stE V w y0 p y x)) (i + 1) n) := by
      have : mF nxE V w y0 p σ i (n + 1) = mF nxE V w y0 p (nxE σ (stC V w y0 p (i / w) (i % w)) (stE V w y0 p (i / w) (i % w))) (i + 1) n := rfl
      rw [this, hy, hx] at hpr; exact hpr
    have hI1 := hR.1 σ _ _ hI hc.1 hc.2.1 he.1 he.2.1
    have hpre1 := (mF_pre (V := V) (w := w) (y0 := y0) (p := p) hR n _ (i + 1) hI1).2 hpr'
    have hst := st_before (V := V') (V' := V) (p := p) (y := y) (x := x) w0 hr.2.2.1 hr.2.2.2 hr.1 (fun y' x' h1 h2 h3 h4 h5 => hV y' x' h1 (by omega) h3 h4 (by omega))
    have eC : stC V' w y0 p y x = stC V w y0 p y x := by unfold stC stT; rw [hst.2]
    have hgo := hR.2.2 σ τ (stC V w y0 p y x) (stE V w y0 p y x) (stE V' w y0 p y x) hI hc.1 hc.2.1 he.1 he.2.1 (fun h => he.2.2 (hc.2.2.mp h)) hRl hpre1
    have hN : stN V' w y0 p y x (ou τ (stC V' w y0 p y x) (stE V' w y0 p y x)) = V (stPl p y x) := by
      rw [eC, hgo.1, ← stN_self hp p0 p1 hr.1 hr.2.1 hr.2.2.1 hr.2.2.2]
      unfold stN stT; rw [hst.1, hst.2]
    have hps : pst nx ou w y0 p (τ, V') (i / w) (i % w) = (nx τ (stC V w y0 p y x) (stE V' w y0 p y x), vset V' (stPl p y x) (V (stPl p y x))) := by
      unfold pst; dsimp only; rw [hy, hx, hN, eC]
    have hmm : mF nxE V w y0 p σ i (n + 1) = mF nxE V w y0 p (nxE σ (stC V w y0 p y x) (stE V w y0 p y x)) (i + 1) n := by
      show mF nxE V w y0 p (nxE σ (stC V w y0 p (i / w) (i % w)) (stE V w y0 p (i / w) (i % w))) (i + 1) n = _
      rw [hy, hx]
    have hpp : pF nx ou w y0 p (τ, V') i (n + 1) = pF nx ou w y0 p (nx τ (stC V w y0 p y x) (stE V' w y0 p y x), vset V' (stPl p y x) (V (stPl p y x))) (i + 1) n := by
      show pF nx ou w y0 p (pst nx ou w y0 p (τ, V') (i / w) (i % w)) (i + 1) n = _
      rw [hps]
    rw [hmm, hpp]
    have := ih (nxE σ (stC V w y0 p y x) (stE V w y0 p y x)) (nx τ (stC V w y0 p y x) (stE V' w y0 p y x)) (vset V' (stPl p y x) (V (stPl p y x))) (i + 1) (by omega) (by omega) hI1 hgo.2 hpr' (fun y' x' h1 h2 h3 h4 h5 => by
      unfold vset; split
      · rename_i hh; rw [hh]
      · rename_i hne
        refine hV y' x' h1 h2 h3 h4 ?_
        by_cases hq : y' * w + x' = i
        · exfalso
          apply hne
          have e1 : i / w = y' ∧ i % w = x' := by
            rw [← hq]
            constructor
            · rw [Int.add_comm, Int.add_mul_ediv_right _ _ (by omega), Int.ediv_eq_zero_of_lt h3 (by omega)]; omega
            · rw [Int.add_comm, Int.add_mul_emod_self_right]; exact Int.emod_eq_of_lt h3 (by omega)
          rw [← hy, ← hx, e1.1, e1.2]
        · omega)
    exact ⟨this.1, fun y' x' h1 h2 h3 h4 h5 => this.2 y' x' h1 h2 h3 h4 (by omega)⟩
theorem pA_dec (hR : rdr nxE nx ou IE Rel pre) (hp : prp V w y0 y1 pn) (w0 : 1 ≤ w) (w1 : w ≤ 6) (hy0 : 0 ≤ y0) (hyy : y0 ≤ y1) (hy1 : y1 ≤ 6) (n : Nat) : ∀ (σ : E) (τ : T) (V' : Int → Int) (p : Int), 0 ≤ p → p + n = pn → IE σ → Rel σ τ → pre (mA nxE V w y0 y1 σ p n) →
    (∀ q y x, 0 ≤ q → q < p → y0 ≤ y → y < y1 → 0 ≤ x → x < w → V' (stPl q y x) = V (stPl q y x)) →
    Rel (mA nxE V w y0 y1 σ p n) (pA nx ou w y0 y1 (τ, V') p n).1 ∧ agr (pA nx ou w y0 y1 (τ, V') p n).2 V w y0 y1 pn := by
  have hc := cnt_eq (y0 := y0) (y1 := y1) w0 hyy
  induction n with
  | zero =>
    intro σ τ V' p p0 hpn hI hRl hpr hV
    exact ⟨hRl, fun q y x q0 q1 => hV q y x q0 (by omega)⟩
  | succ n ih =>
    intro σ τ V' p p0 hpn hI hRl hpr hV
    have hlo : ∀ y x : Int, y0 ≤ y → 0 ≤ x → y0 * w ≤ y * w + x := fun y x h1 h2 => by
      have := Int.mul_le_mul_of_nonneg_right h1 (by omega : 0 ≤ w); omega
    have hhi : ∀ y x : Int, y < y1 → x < w → y * w + x < y1 * w := fun y x h1 h2 => by
      have := Int.mul_le_mul_of_nonneg_right (show y + 1 ≤ y1 by omega) (by omega : 0 ≤ w); rw [Int.add_mul] at this; omega
    have hI1 := mF_pre (V := V) (w := w) (y0 := y0) (p := p) hR ((y1 - y0).toNat * w.toNat) σ (y0 * w) hI
    have hpr1 := (mA_pre (V := V) (w := w) (y0 := y0) (y1 := y1) hR n _ (p + 1) hI1.1).2 hpr
    have h1 := pF_dec hR hp w0 w1 hy0 hy1 p0 (by omega) ((y1 - y0).toNat * w.toNat) σ τ V' (y0 * w) (by omega) (by omega) hI hRl hpr1 (fun y x h1 h2 h3 h4 h5 => by have := hlo y x h1 h3; omega)
    have hout := (pF_prp (T := T) (nx := nx) (ou := ou) (p := p) w0 w1 hy0 hy1 ((y1 - y0).toNat * w.toNat) (τ, V') (y0 * w) (by omega) (by omega)).2
    exact ih _ _ _ (p + 1) (by omega) (by omega) hI1.1 h1.1 hpr (fun q y x q0 q1 ya yb x0 x1 => by
      by_cases hq : q = p
      · subst hq; exact h1.2 y x ya yb x0 x1 (by rw [hc]; exact hhi y x yb x1)
      · rw [hout _ (fun y' x' h1 h2 h3 h4 _ _ he => by have := stPl_inj (by omega) (by omega) x0 (by omega) (by omega) (by omega) h3 (by omega) he; omega)]
        exact hV q y x q0 (by omega) ya yb x0 x1)
end S62
