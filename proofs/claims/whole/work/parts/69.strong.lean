/-! WHAT WAS WRITTEN IS READ -/
def nb (s : Nat → Int) : Nat → Int
  | 0 => 0
  | i + 1 => 2 * nb s i + s i
def nm (s : Nat → Int) : Nat → Int
  | 0 => 0
  | i + 1 => 256 * nm s i + s i
def wv (σ : bS) : Int := σ.2.2.1 / 2 ^ σ.2.2.2.2.toNat
def ps (σ : bS) : Nat := 8 * σ.2.2.2.1 - σ.2.2.2.2.toNat
def bpre (s : Nat → Int) (σ : bS) : Prop := wv σ = nb s (ps σ)
/-- the number fits its digits -/
def bJ (σ : bS) : Prop := bI σ ∧ σ.2.2.1 < 256 ^ σ.2.2.2.1
theorem bw_wv {σ : bS} (h : bI σ) {b : Int} (hb : b = 0 ∨ b = 1) : wv (bw σ b) = 2 * wv σ + b ∧ ps (bw σ b) = ps σ + 1 := by
  obtain ⟨S, C, X, n, lf⟩ := σ
  obtain ⟨hC, h0, h1, h2, h3, h4⟩ := h
  dsimp only at h0 h1 h2 h3 h4
  unfold bw wv ps; dsimp only
  by_cases hl : lf = 0
  · rw [if_pos hl]
    subst hl
    constructor
    · show (X * 256 + b * 128) / 128 = 2 * (X / 1) + b; omega
    · show 8 * (n + 1) - 7 = 8 * n - 0 + 1; omega
  · rw [if_neg hl]
    have hc : lf = 1 ∨ lf = 2 ∨ lf = 3 ∨ lf = 4 ∨ lf = 5 ∨ lf = 6 ∨ lf = 7 := by omega
    have hn : 1 ≤ n := by
      by_cases hz : n = 0
      · exact absurd (h4 hz) hl
      · omega
    constructor
    · dsimp only
      rcases hc with rfl | rfl | rfl | rfl | rfl | rfl | rfl <;> simp only [Int.reduceToNat, Int.reduceSub, Int.reducePow] at h3 ⊢ <;> omega
    · dsimp only; omega
theorem bw_J {σ : bS} (h : bJ σ) {b : Int} (hb : b = 0 ∨ b = 1) : bJ (bw σ b) := by
  refine ⟨bw_I h.1 hb, ?_⟩
  obtain ⟨S, C, X, n, lf⟩ := σ
  obtain ⟨⟨hC, h0, h1, h2, h3, h4⟩, h5⟩ := h
  dsimp only at h0 h1 h2 h3 h4 h5
  unfold bw; dsimp only
  by_cases hl : lf = 0
  · rw [if_pos hl]; dsimp only; rw [Int.pow_succ]; omega
  · rw [if_neg hl]; dsimp only
    have hc : lf = 1 ∨ lf = 2 ∨ lf = 3 ∨ lf = 4 ∨ lf = 5 ∨ lf = 6 ∨ lf = 7 := by omega
    obtain ⟨m, rfl⟩ : ∃ m, n = m + 1 := ⟨n - 1, by
      by_cases hz : n = 0
      · exact absurd (h4 hz) hl
      · omega⟩
    rw [Int.pow_succ] at h5 ⊢
    rcases hc with rfl | rfl | rfl | rfl | rfl | rfl | rfl <;> simp only [Int.reduceToNat, Int.reduceSub, Int.reducePow] at h3 ⊢ <;> omega
section S69
variable {s : Nat → Int}
theorem bw_back (hs : ∀ i, s i = 0 ∨ s i = 1) {σ : bS} (h : bI σ) {b : Int} (hb : b = 0 ∨ b = 1) (hp : bpre s (bw σ b)) : bpre s σ ∧ s (ps σ) = b := by
  obtain ⟨h1, h2⟩ := bw_wv h hb
  unfold bpre at hp ⊢
  rw [h1, h2] at hp
  have : nb s (ps σ + 1) = 2 * nb s (ps σ) + s (ps σ) := rfl
  rw [this] at hp
  have := hs (ps σ)
  omega
theorem bZ_back (hs : ∀ i, s i = 0 ∨ s i = 1) (r : Nat) : ∀ {σ : bS}, bI σ → bpre s (bZ σ r) → bpre s σ ∧ ps (bZ σ r) = ps σ + r ∧ ∀ i, i < r → s (ps σ + i) = 0 := by
  induction r with
  | zero => intro σ h hp; exact ⟨hp, rfl, fun i hi => absurd hi (Nat.not_lt_zero _)⟩
  | succ r ih =>
    intro σ h hp
    obtain ⟨q1, q2, q3⟩ := ih (bw_I h (.inl rfl)) hp
    obtain ⟨r1, r2⟩ := bw_back hs h (.inl rfl) q1
    have e := (bw_wv h (b := 0) (.inl rfl)).2
    refine ⟨r1, ?_, fun i hi => ?_⟩
    · show ps (bZ (bw σ 0) r) = _; rw [q2, e]; omega
    · by_cases h0 : i = 0
      · subst h0; exact r2
      · have := q3 (i - 1) (by omega)
        rw [e] at this
        rw [← this]; congr 1; omega
theorem bD_back (hs : ∀ i, s i = 0 ∨ s i = 1) {m : Int} (m0 : 0 ≤ m) (r : Nat) : ∀ {σ : bS}, bI σ → bpre s (bD σ m r) → bpre s σ ∧ ps (bD σ m r) = ps σ + r ∧ bv s (ps σ) r (m / 2 ^ r) = m := by
  induction r with
  | zero => intro σ h hp; exact ⟨hp, rfl, by show m / 2 ^ 0 = m; simp⟩
  | succ r ih =>
    intro σ h hp
    have hb : m / 2 ^ r % 2 = 0 ∨ m / 2 ^ r % 2 = 1 := by omega
    obtain ⟨q1, q2, q3⟩ := ih (bw_I h hb) hp
    obtain ⟨r1, r2⟩ := bw_back hs h hb q1
    have e := (bw_wv h hb).2
    refine ⟨r1, ?_, ?_⟩
    · show ps (bD (bw σ _) m r) = _; rw [q2, e]; omega
    · unfold bv
      rw [r2, ← e]
      have hdd : m / 2 ^ (r + 1) = m / 2 ^ r / 2 := by
        rw [Int.pow_succ, Int.ediv_ediv_of_nonneg (by have := pow2_pos r; omega)]
      rw [hdd, show m / 2 ^ r / 2 * 2 + m / 2 ^ r % 2 = m / 2 ^ r by omega]; exact q3
theorem zr_of {p r : Nat} (k : Nat) (h : ∀ i, i < r → s (p + i) = 0) : zr s p (r + k) = r + zr s (p + r) k := by
  induction r generalizing p with
  | zero => simp
  | succ r ih =>
    rw [show r + 1 + k = (r + k) + 1 by omega]
    show (if s p = 0 then zr s (p + 1) (r + k) + 1 else 0) = _
    have h0 := h 0 (by omega)
    rw [Nat.add_zero] at h0
    rw [if_pos h0, ih (p := p + 1) (fun i hi => by have := h (i + 1) (by omega); rw [← this]; congr 1; omega)]
    rw [show p + 1 + r = p + (r + 1) by omega]; omega
theorem unz_zig {e : Int} (e0 : -256 ≤ e) (e1 : e ≤ 255) : 0 ≤ zig e ∧ zig e ≤ 511 ∧ unz (zig e) = e := by
  unfold unz zig
  by_cases h : e < 0
  · rw [if_pos h]; rw [if_neg (by omega)]; omega
  · rw [if_neg h]; rw [if_pos (by omega)]; omega
theorem bL_22 (σ : bS) (c e : Int) : (bL σ c e).2.2 = σ.2.2 := by unfold bL; split <;> rfl
theorem bL_ps (σ : bS) (c e : Int) : ps (bL σ c e) = ps σ ∧ wv (bL σ c e) = wv σ := by unfold ps wv; rw [bL_22]; exact ⟨rfl, rfl⟩
theorem bL_congr {σ σ' : bS} (h1 : σ.1 = σ'.1) (h2 : σ.2.1 = σ'.2.1) (c e : Int) : (bL σ c e).1 = (bL σ' c e).1 ∧ (bL σ c e).2.1 = (bL σ' c e).2.1 := by
  unfold bL; rw [h1, h2]; split <;> exact ⟨rfl, rfl⟩
/-- what is read is what was written -/
theorem bE_dec (hs : ∀ i, s i = 0 ∨ s i = 1) {σ : bS} (h : bI σ) {c e : Int} (e0 : -256 ≤ e) (e1 : e ≤ 255) (hp : bpre s (bE σ c e)) : bpre s σ ∧ bgot s (σ.1, σ.2.1, ps σ) c = zig e ∧ bpos s (σ.1, σ.2.1, ps σ) c = ps (bE σ c e) ∧ (bE σ c e).1 = (bL (σ.1, σ.2.1, 0, 0, 0) c e).1 ∧ (bE σ c e).2.1 = (bL (σ.1, σ.2.1, 0, 0, 0) c e).2.1 := by
  obtain ⟨m0, m1, -⟩ := unz_zig e0 e1
  obtain ⟨m, hm⟩ : ∃ m, zig e = m := ⟨_, rfl⟩
  obtain ⟨k, hk⟩ : ∃ k, low (σ.1 c) (σ.2.1 c) = k := ⟨_, rfl⟩
  unfold bE at hp ⊢
  rw [hm] at m0 m1 hp ⊢
  rw [hk] at hp ⊢
  have hdb := div_bound m0 k
  unfold bgot bpos
  dsimp only
  rw [hk]
  by_cases hz : m / 2 ^ k < 12
  · rw [if_pos hz] at hp ⊢
    obtain ⟨z, hzz⟩ : ∃ z, (m / 2 ^ k).toNat = z := ⟨_, rfl⟩
    have hzi : m / 2 ^ k = (z : Int) := by omega
    rw [hzz] at hp ⊢
    have hp3 : bpre s (bD (bw (bZ σ z) 1) m k) := by unfold bpre at hp ⊢; rw [(bL_ps _ c e).1, (bL_ps _ c e).2] at hp; exact hp
    have hI1 := bZ_I z h
    have hI2 := bw_I hI1 (b := 1) (.inr rfl)
    obtain ⟨q1, q2, q3⟩ := bD_back hs m0 k hI2 hp3
    obtain ⟨r1, r2⟩ := bw_back hs hI1 (.inr rfl) q1
    obtain ⟨t1, t2, t3⟩ := bZ_back hs z h r1
    have e2 := (bw_wv hI1 (b := 1) (.inr rfl)).2
    have hzr : zr s (ps σ) 12 = z := by
      rw [show 12 = z + (12 - z - 1 + 1) by omega, zr_of _ t3]
      unfold zr
      rw [← t2, r2, if_neg (by decide)]; omega
    rw [hzr, if_neg (by omega), if_neg (by omega)]
    rw [e2, t2] at q3 q2
    rw [hzi] at q3
    refine ⟨t1, q3, ?_, ?_⟩
    · rw [(bL_ps _ c e).1, q2]
    · have h12 := bD_12 (m := m) k (bw (bZ σ z) 1)
      have hb12 := bw_12 (bZ σ z) 1
      have hz12 := bZ_12 z σ
      exact bL_congr (by rw [h12.1, hb12.1, hz12.1]) (by rw [h12.2, hb12.2, hz12.2]) c e
  · rw [if_neg hz] at hp ⊢
    have hp3 : bpre s (bD (bZ σ 12) m 9) := by unfold bpre at hp ⊢; rw [(bL_ps _ c e).1, (bL_ps _ c e).2] at hp; exact hp
    have hI1 := bZ_I 12 h
    obtain ⟨q1, q2, q3⟩ := bD_back hs m0 9 hI1 hp3
    obtain ⟨t1, t2, t3⟩ := bZ_back hs 12 h q1
    have hzr : zr s (ps σ) 12 = 12 := by
      have := zr_of (s := s) (p := ps σ) (r := 12) 0 t3
      exact this
    rw [hzr, if_pos rfl, if_pos rfl]
    have e9 : m / 2 ^ 9 = 0 := by omega
    rw [e9, t2] at q3
    rw [t2] at q2
    refine ⟨t1, q3, ?_, ?_⟩
    · rw [(bL_ps _ c e).1, q2]
    · have h12 := bD_12 (m := m) 9 (bZ σ 12)
      have hz12 := bZ_12 12 σ
      exact bL_congr (by rw [h12.1, hz12.1]) (by rw [h12.2, hz12.2]) c e
theorem bZ_J (r : Nat) : ∀ {σ : bS}, bJ σ → bJ (bZ σ r) := by
  induction r with
  | zero => intro σ h; exact h
  | succ r ih => intro σ h; exact ih (bw_J h (.inl rfl))
theorem bD_J {m : Int} (r : Nat) : ∀ {σ : bS}, bJ σ → bJ (bD σ m r) := by
  induction r with
  | zero => intro σ h; exact h
  | succ r ih => intro σ h; exact ih (bw_J h (by omega))
theorem bL_J {σ : bS} (h : bJ σ) {c e : Int} (e0 : -256 ≤ e) (e1 : e ≤ 256) : bJ (bL σ c e) := ⟨bL_I h.1 e0 e1, by rw [bL_22]; exact h.2⟩
theorem bE_J {σ : bS} (h : bJ σ) {c e : Int} (e0 : -256 ≤ e) (e1 : e ≤ 256) : bJ (bE σ c e) := by
  unfold bE; split
  · exact bL_J (bD_J _ (bw_J (bZ_J _ h) (.inr rfl))) e0 e1
  · exact bL_J (bD_J _ (bZ_J _ h)) e0 e1
theorem rdr_b (hs : ∀ i, s i = 0 ∨ s i = 1) : rdr bE (fun τ c _ => bdN s τ c) (fun τ c _ => bdO s τ c) bJ (fun σ τ => τ = (σ.1, σ.2.1, ps σ)) (bpre s) := by
  refine ⟨fun σ c e h _ _ e0 e1 => bE_J h e0 (by omega), fun σ c e h _ _ e0 e1 hp => (bE_dec hs h.1 e0 e1 hp).1, fun σ τ c e e' h _ _ e0 e1 _ hR hp => ?_⟩
  obtain ⟨-, h2, h3, h4, h5⟩ := bE_dec hs h.1 e0 e1 hp
  obtain ⟨m0, m1, hu⟩ := unz_zig e0 e1
  subst hR
  have hO : bdO s (σ.1, σ.2.1, ps σ) c = e := by unfold bdO; rw [h2, show zig e % 512 = zig e by omega, hu]
  refine ⟨hO, ?_⟩
  dsimp only
  unfold bdN dL
  rw [hO, h3, h4, h5]
theorem rdr_bm (hs : ∀ i, s i = 0 ∨ s i = 1) : rdr bE (fun τ c _ => bmN s τ c) (fun τ c _ => bmO s τ c) bJ (fun σ τ => τ = ((σ.1, σ.2.1, ps σ), 0)) (bpre s) := by
  refine ⟨fun σ c e h _ _ e0 e1 => bE_J h e0 (by omega), fun σ c e h _ _ e0 e1 hp => (bE_dec hs h.1 e0 e1 hp).1, fun σ τ c e e' h _ _ e0 e1 hce hR hp => ?_⟩
  obtain ⟨-, h2, h3, h4, h5⟩ := bE_dec hs h.1 e0 e1 hp
  obtain ⟨m0, m1, hu⟩ := unz_zig e0 e1
  have hhm : -hmC c ≤ e ∧ e < hmC c := by unfold hmC; split <;> omega
  subst hR
  have hO : bmO s ((σ.1, σ.2.1, ps σ), 0) c = e := by unfold bmO snd1; dsimp only; rw [h2, hu, if_pos hhm]
  refine ⟨hO, ?_⟩
  dsimp only
  unfold bmN dL
  rw [hO]; dsimp only
  rw [h2, hu, h3, h4, h5]
  congr 1
  exact (if_pos ⟨rfl, hhm⟩ : spN c e 0 = 0)
-- ranges
def qOf (s : Nat → Int) (σ : rS) : qS := (σ.1, σ.2.1, nm s σ.2.2.2 - σ.2.2.1, σ.2.2.2)
def rpre (s : Nat → Int) (σ : rS) : Prop := σ.2.2.1 ≤ nm s σ.2.2.2 ∧ nm s σ.2.2.2 < σ.2.2.1 + σ.2.1
theorem rb_back (hb : ∀ i, 0 ≤ s i ∧ s i ≤ 255) {σ : rS} (h : rI σ) (pl : Int) {b : Int} (h01 : b = 0 ∨ b = 1) (hp : rpre s (rb σ pl b)) : rpre s σ ∧ rdB (qOf s σ) pl = b ∧ rdS s (qOf s σ) pl = qOf s (rb σ pl b) := by
  have hH := rH_bd h pl
  obtain ⟨T, R, X, n⟩ := σ
  obtain ⟨h1, h2, h3, h4, h5⟩ := h
  have hq := hb n
  have hnm : nm s (n + 1) = 256 * nm s n + s n := rfl
  dsimp only at h1 h2 h4 h5
  have e1 : rdH (qOf s (T, R, X, n)) pl = rH (T, R, X, n) pl := rfl
  obtain ⟨H, hHe⟩ : ∃ H, rH (T, R, X, n) pl = H := ⟨_, rfl⟩
  unfold rdS rdB
  rw [e1]
  unfold rb at hp ⊢
  dsimp only at hp hH ⊢
  rw [hHe] at hp hH ⊢
  unfold qOf rpre at *
  dsimp only at hp ⊢
  rcases h01 with rfl | rfl
  · simp only [show ¬ (0 : Int) = 1 by omega, if_false] at hp ⊢
    by_cases hc : R - H < 256
    · rw [if_pos hc] at hp ⊢
      dsimp only at hp ⊢
      rw [hnm] at hp ⊢
      have hno : ¬ R - H ≤ nm s n - X := by omega
      simp only [hno, if_false, show ¬ (0 : Int) = 1 by omega, hc, if_true]
      rw [bm_id (by omega) (by omega)]
      refine ⟨by omega, trivial, ?_⟩
      congr 3; omega
    · rw [if_neg hc] at hp ⊢
      dsimp only at hp ⊢
      have hno : ¬ R - H ≤ nm s n - X := by omega
      simp only [hno, if_false, show ¬ (0 : Int) = 1 by omega, hc]
      exact ⟨by omega, trivial, trivial⟩
  · simp only [if_true] at hp ⊢
    by_cases hc : H < 256
    · rw [if_pos hc] at hp ⊢
      dsimp only at hp ⊢
      rw [hnm] at hp ⊢
      have hyes : R - H ≤ nm s n - X := by omega
      simp only [hyes, if_true, hc]
      rw [bm_id (by omega) (by omega)]
      refine ⟨by omega, trivial, ?_⟩
      congr 3; omega
    · rw [if_neg hc] at hp ⊢
      dsimp only at hp ⊢
      have hyes : R - H ≤ nm s n - X := by omega
      simp only [hyes, if_true, hc, if_false]
      refine ⟨by omega, trivial, ?_⟩
      congr 3; omega
theorem rUp_back (hb : ∀ i, 0 ≤ s i ∧ s i ≤ 255) {p : Int} (r : Nat) : ∀ {σ : rS} {i : Nat}, i + r ≤ 8 → rI σ → rpre s (rUp σ p r i) → rpre s σ ∧ rdN s p (8 - i) i (qOf s σ) = (i + r, qOf s (rUp σ p r i)) := by
  induction r with
  | zero =>
    intro σ i hi h hp
    unfold rUp at hp ⊢
    by_cases hc : (i : Int) < 8
    · rw [if_pos hc] at hp ⊢
      obtain ⟨q1, q2, q3⟩ := rb_back hb h _ (.inl rfl) hp
      refine ⟨q1, ?_⟩
      rw [show 8 - i = (7 - i) + 1 by omega]
      unfold rdN
      rw [q2, if_neg (by decide), q3]; rfl
    · rw [if_neg hc] at hp ⊢
      refine ⟨hp, ?_⟩
      rw [show 8 - i = 0 by omega]; rfl
  | succ r ih =>
    intro σ i hi h hp
    have hp' : rpre s (rUp (rb σ (p + 1 + i) 1) p r ((i + 1 : Nat) : Int)) := by
      have : ((i + 1 : Nat) : Int) = (i : Int) + 1 := by omega
      rw [this]; exact hp
    obtain ⟨q1, q2⟩ := ih (i := i + 1) (by omega) (rb_I h _ _) hp'
    obtain ⟨r1, r2, r3⟩ := rb_back hb h _ (.inr rfl) q1
    refine ⟨r1, ?_⟩
    rw [show 8 - i = (8 - (i + 1)) + 1 by omega]
    unfold rdN
    rw [r2, if_pos rfl, r3, q2]
    have : ((i + 1 : Nat) : Int) = (i : Int) + 1 := by omega
    rw [this, show i + 1 + r = i + (r + 1) by omega]; rfl
theorem rDn_back (hb : ∀ i, 0 ≤ s i ∧ s i ≤ 255) {p av : Int} (r : Nat) : ∀ {σ : rS}, rI σ → rpre s (rDn σ p av r) → rpre s σ ∧ rdG s p r (av / 2 ^ r) (qOf s σ) = (av, qOf s (rDn σ p av r)) := by
  induction r with
  | zero => intro σ h hp; exact ⟨hp, by show (av / 2 ^ 0, _) = _; simp; rfl⟩
  | succ r ih =>
    intro σ h hp
    obtain ⟨q1, q2⟩ := ih (rb_I h _ _) hp
    obtain ⟨r1, r2, r3⟩ := rb_back hb h _ (by omega) q1
    refine ⟨r1, ?_⟩
    unfold rdG
    have hdd : av / 2 ^ (r + 1) = av / 2 ^ r / 2 := by
      rw [Int.pow_succ, Int.ediv_ediv_of_nonneg (by have := pow2_pos r; omega)]
    rw [r2, r3, hdd, show av / 2 ^ r / 2 * 2 + av / 2 ^ r % 2 = av / 2 ^ r by omega]; exact q2
theorem rE_dec (hb : ∀ i, 0 ≤ s i ∧ s i ≤ 255) {σ : rS} (h : rI σ) {c e : Int} (e0 : -256 ≤ e) (e1 : e ≤ 255) (hp : rpre s (rE σ c e)) : rpre s σ ∧ rdX s (qOf s σ) c = (e, qOf s (rE σ c e)) ∧ (rdB (qOf s σ) (c * 19) = 1 ↔ e = 0) := by
  unfold rE at hp ⊢
  unfold rdX
  by_cases hz : e = 0
  · rw [if_pos hz] at hp ⊢
    obtain ⟨q1, q2, q3⟩ := rb_back hb h _ (.inr rfl) hp
    rw [q2, if_pos rfl, q3, hz]
    exact ⟨q1, rfl, fun _ => rfl, fun _ => rfl⟩
  · rw [if_neg hz] at hp ⊢
    obtain ⟨av, hav⟩ : ∃ av, (if e < 0 then -e else e) = av := ⟨_, rfl⟩
    rw [hav] at hp ⊢
    have h1 : 1 ≤ av := by rw [← hav]; split <;> omega
    have h2 : av ≤ 256 := by rw [← hav]; split <;> omega
    have hl := lg2_le h1
    have h8 := lg2_8 h1 h2
    have one : av / 2 ^ lg2 av = 1 := by
      have h3 := pow2_pos (lg2 av)
      have hle : 1 ≤ av / 2 ^ lg2 av := by rw [Int.le_ediv_iff_mul_le h3]; omega
      have hlt : av / 2 ^ lg2 av < 2 := by rw [Int.ediv_lt_iff_lt_mul h3]; rw [Int.pow_succ] at hl; omega
      omega
    have I1 := rb_I h (c * 19) 0
    have I2 := rUp_I (p := c * 19) (lg2 av) 0 I1
    have I3 := rDn_I (p := c * 19) (av := av) (lg2 av) I2
    have hsg : (if e < 0 then (1 : Int) else 0) = 0 ∨ (if e < 0 then (1 : Int) else 0) = 1 := by split <;> omega
    obtain ⟨q1, q2, q3⟩ := rb_back hb I3 _ hsg hp
    obtain ⟨r1, r2⟩ := rDn_back hb (lg2 av) I2 q1
    obtain ⟨t1, t2⟩ := rUp_back hb (p := c * 19) (lg2 av) (i := 0) (by omega) I1 r1
    obtain ⟨u1, u2, u3⟩ := rb_back hb h _ (.inl rfl) t1
    rw [one] at r2
    rw [u2, if_neg (by decide)]
    dsimp only
    rw [u3, show (8 : Nat) = 8 - 0 from rfl, t2]
    dsimp only
    rw [show 0 + lg2 av = lg2 av by omega, show ((0 : Nat) : Int) = 0 from rfl, r2]
    dsimp only
    rw [q2, q3]
    refine ⟨u1, ?_, fun z => absurd z (by decide), fun z => absurd z hz⟩
    congr 1
    rw [← hav]
    by_cases hn : e < 0
    · rw [if_pos hn, if_pos rfl, if_pos hn]; omega
    · rw [if_neg hn, if_neg (by decide), if_neg hn]
theorem rdr_r (hb : ∀ i, 0 ≤ s i ∧ s i ≤ 255) : rdr rE (fun τ c _ => (rdX s τ c).2) (fun τ c _ => (rdX s τ c).1) rI (fun σ τ => τ = qOf s σ) (rpre s) := by
  refine ⟨fun σ c e h _ _ e0 e1 => rE_I h, fun σ c e h _ _ e0 e1 hp => (rE_dec hb h e0 e1 hp).1, fun σ τ c e e' h _ _ e0 e1 _ hR hp => ?_⟩
  subst hR
  dsimp only
  rw [(rE_dec hb h e0 e1 hp).2.1]; exact ⟨rfl, rfl⟩
theorem rdr_rm (hb : ∀ i, 0 ≤ s i ∧ s i ≤ 255) : rdr rE (fun τ c _ => rmN s τ c) (fun τ c _ => rmO s τ c) rI (fun σ τ => τ = (qOf s σ, 0)) (rpre s) := by
  refine ⟨fun σ c e h _ _ e0 e1 => rE_I h, fun σ c e h _ _ e0 e1 hp => (rE_dec hb h e0 e1 hp).1, fun σ τ c e e' h _ _ e0 e1 hce hR hp => ?_⟩
  subst hR
  obtain ⟨-, h2, h3⟩ := rE_dec hb h e0 e1 hp
  have hhm : -hmC c ≤ e ∧ e < hmC c := by unfold hmC; split <;> omega
  unfold rmO rmN
  dsimp only
  rw [h2]
  by_cases hz : e = 0
  · rw [if_pos (h3.mpr hz), if_pos (h3.mpr hz)]; exact ⟨hz.symm, rfl⟩
  · rw [if_neg (fun z => hz (h3.mp z)), if_neg (fun z => hz (h3.mp z))]
    refine ⟨if_pos hhm, ?_⟩
    congr 1
    exact if_pos ⟨rfl, hhm⟩
end S69
