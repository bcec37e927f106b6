/-! READING HAS ONE ANSWER -/
theorem bkR_ex {F : Int → Int} {md sl w h pn en : Int} (n : Nat) : ∀ i pl, ∃ o, bkR F md sl w h pn en n i pl o := by
  induction n with
  | zero =>
    intro i pl
    by_cases c : pl = en
    · exact ⟨-1, fun _ => rfl, fun z => absurd c z⟩
    · exact ⟨pl, fun z => absurd z c, fun _ => rfl⟩
  | succ n ih =>
    intro i pl
    by_cases c1 : pl + 2 ≤ en ∧ pl + 4 + sz2 F pl ≤ en
    · by_cases c2 : crc F (pl + 2) 65535 (sz2 F pl).toNat = sz2 F (pl + 2 + sz2 F pl)
      · by_cases c3 : AC md F (pl + 2) (pl + 2 + sz2 F pl) w (i * h / sl) ((i + 1) * h / sl) pn
        · obtain ⟨o, ho⟩ := ih (i + 1) (pl + 4 + sz2 F pl)
          exact ⟨o, fun z => absurd c1 z, fun _ => ⟨fun z => absurd c2 z, fun _ => ⟨fun z => absurd c3 z, fun _ => ho⟩⟩⟩
        · exact ⟨_, fun z => absurd c1 z, fun _ => ⟨fun z => absurd c2 z, fun _ => ⟨fun _ => rfl, fun z => absurd z c3⟩⟩⟩
      · exact ⟨_, fun z => absurd c1 z, fun _ => ⟨fun _ => rfl, fun z => absurd z c2⟩⟩
    · exact ⟨_, fun _ => rfl, fun z => absurd z c1⟩
theorem bkR_uq {F : Int → Int} {md sl w h pn en : Int} (n : Nat) : ∀ i pl o o', bkR F md sl w h pn en n i pl o → bkR F md sl w h pn en n i pl o' → o = o' := by
  induction n with
  | zero =>
    intro i pl o o' h1 h2
    by_cases c : pl = en
    · rw [h1.1 c, h2.1 c]
    · rw [h1.2 c, h2.2 c]
  | succ n ih =>
    intro i pl o o' h1 h2
    by_cases c1 : pl + 2 ≤ en ∧ pl + 4 + sz2 F pl ≤ en
    · have k1 := h1.2 c1
      have k2 := h2.2 c1
      by_cases c2 : crc F (pl + 2) 65535 (sz2 F pl).toNat = sz2 F (pl + 2 + sz2 F pl)
      · by_cases c3 : AC md F (pl + 2) (pl + 2 + sz2 F pl) w (i * h / sl) ((i + 1) * h / sl) pn
        · exact ih _ _ _ _ ((k1.2 c2).2 c3) ((k2.2 c2).2 c3)
        · rw [(k1.2 c2).1 c3, (k2.2 c2).1 c3]
      · rw [k1.1 c2, k2.1 c2]
    · rw [h1.1 c1, h2.1 c1]
section S87
variable {F : Int → Int} {en pl id n lo hi ln be w h pn md sl lt : Int}
theorem psF_fl (m : Nat) : ∀ pl, (psF F en m pl).2 = 1 ∨ (psF F en m pl).2 = 0 := by
  induction m with
  | zero => intro pl; exact .inr rfl
  | succ m ih =>
    intro pl; unfold psF; split
    · split
      · exact ih _
      · exact .inl rfl
    · exact .inr rfl
theorem pas_fl : (pas F en pl).2 = 1 ∨ (pas F en pl).2 = 0 := psF_fl 1201 pl
theorem enF_fl : (enF F id en pl).1 = 1 ∨ (enF F id en pl).1 = 0 := by
  unfold enF; split
  · exact .inl rfl
  · split
    · exact .inl rfl
    · split
      · exact .inr rfl
      · exact .inl rfl
theorem nuF_fl : (nuF F id n lo hi en pl).1 = 1 ∨ (nuF F id n lo hi en pl).1 = 0 := by
  unfold nuF; split
  · exact .inl rfl
  · split
    · exact .inl rfl
    · split
      · exact .inr rfl
      · exact .inl rfl
theorem lvF_fl : (lvF F en pl).2 = 1 ∨ (lvF F en pl).2 = 0 := by
  unfold lvF; split
  · exact .inl rfl
  · split
    · exact .inr rfl
    · exact .inl rfl
theorem hdF_fl : (hdF F ln).1 = 1 ∨ (hdF F ln).1 = 0 := by
  unfold hdF; split
  · exact .inl rfl
  · split
    · exact .inl rfl
    · split
      · exact .inl rfl
      · split
        · exact .inl rfl
        · exact .inr rfl
theorem t6F_fl {te v : Int} : (t6F F be te pl w h pn v).1 = 1 ∨ (t6F F be te pl w h pn v).1 = 0 := by
  unfold t6F; split
  · exact .inl rfl
  · split
    · exact .inl rfl
    · exact .inr rfl
theorem t5F_fl {te : Int} : (t5F F be te pl w h pn).1 = 1 ∨ (t5F F be te pl w h pn).1 = 0 := by
  unfold t5F; split
  · exact .inl rfl
  · split
    · exact .inl rfl
    · exact t6F_fl
theorem t4F_fl {te : Int} : (t4F F be te pl w h).1 = 1 ∨ (t4F F be te pl w h).1 = 0 := by
  unfold t4F; split
  · exact .inl rfl
  · split
    · exact .inl rfl
    · exact t5F_fl
theorem tkF_fl : (tkF F be pl).1 = 1 ∨ (tkF F be pl).1 = 0 := by
  unfold tkF; split
  · exact .inl rfl
  · unfold t2F; split
    · exact .inl rfl
    · unfold t3F; split
      · exact .inl rfl
      · exact t4F_fl
theorem n10 {P : Prop} {x : Int} (h1 : x = 1) (h0 : x = 0) : P := absurd (h1.symm.trans h0) (by decide)
theorem frR_val : (∃ o, frR F be w h pn md sl pl lt (fun o' => o' = o) (fun _ _ _ => False)) ∨ (∃ p t b, frR F be w h pn md sl pl lt (fun _ => False) (fun p' t' b' => p' = p ∧ t' = t ∧ b' = b)) := by
  rcases enF_fl (F := F) (id := 31) (en := be) (pl := pl) with c1 | c1
  · exact .inl ⟨_, fun _ => rfl, fun z => n10 c1 z⟩
  obtain ⟨fe, hfe⟩ : ∃ fe, (enF F 31 be pl).2.2.1 = fe := ⟨_, rfl⟩
  obtain ⟨a1, ha1⟩ : ∃ a1, (enF F 31 be pl).2.1 = a1 := ⟨_, rfl⟩
  rcases nuF_fl (F := F) (id := 231) (n := 2) (lo := lt + 1) (hi := 65535) (en := fe) (pl := a1) with c2 | c2
  · refine .inl ⟨(nuF F 231 2 (lt + 1) 65535 fe a1).2.1, fun z => n10 z c1, fun _ fe' a1' h1 h2 => ?_⟩
    rw [hfe] at h1; rw [ha1] at h2; subst h1; subst h2
    exact ⟨fun _ => rfl, fun z => n10 c2 z⟩
  obtain ⟨a2, ha2⟩ : ∃ a2, (nuF F 231 2 (lt + 1) 65535 fe a1).2.1 = a2 := ⟨_, rfl⟩
  obtain ⟨t, ht⟩ : ∃ t, (nuF F 231 2 (lt + 1) 65535 fe a1).2.2 = t := ⟨_, rfl⟩
  rcases enF_fl (F := F) (id := 163) (en := fe) (pl := a2) with c3 | c3
  · refine .inl ⟨(enF F 163 fe a2).2.1, fun z => n10 z c1, fun _ fe' a1' h1 h2 => ?_⟩
    rw [hfe] at h1; rw [ha1] at h2; subst h1; subst h2
    refine ⟨fun z => n10 z c2, fun _ a2' t' h3 h4 => ?_⟩
    rw [ha2] at h3; rw [ht] at h4; subst h3; subst h4
    exact ⟨fun _ => rfl, fun z => n10 c3 z⟩
  obtain ⟨ke, hke⟩ : ∃ ke, (enF F 163 fe a2).2.2.1 = ke := ⟨_, rfl⟩
  obtain ⟨a3, ha3⟩ : ∃ a3, (enF F 163 fe a2).2.1 = a3 := ⟨_, rfl⟩
  obtain ⟨o, ho⟩ := bkR_ex (F := F) (md := md) (sl := sl) (w := w) (h := h) (pn := pn) (en := ke) sl.toNat 0 a3
  have red : ∀ (no : Int → Prop) (ok : Int → Int → Int → Prop), ((o ≠ -1 → no o) ∧ (o = -1 → ((lvF F fe ke).2 = 1 → no (lvF F fe ke).1) ∧ ((lvF F fe ke).2 = 0 → ((pas F be (lvF F fe ke).1).2 = 1 → no (pas F be (lvF F fe ke).1).1) ∧ ((pas F be (lvF F fe ke).1).2 = 0 → ok (pas F be (lvF F fe ke).1).1 t a3)))) → frR F be w h pn md sl pl lt no ok := fun no ok hk => by
    refine ⟨fun z => n10 z c1, fun _ fe' a1' h1 h2 => ?_⟩
    rw [hfe] at h1; rw [ha1] at h2; subst h1; subst h2
    refine ⟨fun z => n10 z c2, fun _ a2' t' h3 h4 => ?_⟩
    rw [ha2] at h3; rw [ht] at h4; subst h3; subst h4
    refine ⟨fun z => n10 z c3, fun _ ke' a3' h5 h6 o' ho' => ?_⟩
    rw [hke] at h5; rw [ha3] at h6; subst h5; subst h6
    rw [bkR_uq _ _ _ _ _ ho' ho]
    exact hk
  by_cases c4 : o = -1
  · rcases lvF_fl (F := F) (en := fe) (pl := ke) with c5 | c5
    · exact .inl ⟨_, red _ _ ⟨fun z => absurd c4 z, fun _ => ⟨fun _ => rfl, fun z => n10 c5 z⟩⟩⟩
    · rcases pas_fl (F := F) (en := be) (pl := (lvF F fe ke).1) with c6 | c6
      · exact .inl ⟨_, red _ _ ⟨fun z => absurd c4 z, fun _ => ⟨fun z => n10 z c5, fun _ => ⟨fun _ => rfl, fun z => n10 c6 z⟩⟩⟩⟩
      · exact .inr ⟨_, _, _, red _ _ ⟨fun z => absurd c4 z, fun _ => ⟨fun z => n10 z c5, fun _ => ⟨fun z => n10 z c6, fun _ => ⟨rfl, rfl, rfl⟩⟩⟩⟩⟩
  · exact .inl ⟨o, red _ _ ⟨fun _ => rfl, fun z => absurd z c4⟩⟩
theorem fmK_val (m : Nat) : ∀ pl lt k T B, (∃ o, fmK F ln be w h pn md sl (fun o' => o' = o) (fun _ _ _ => False) m pl lt k T B) ∨ (∃ N T' B', fmK F ln be w h pn md sl (fun _ => False) (fun N'' T'' B'' => N'' = N ∧ T'' = T' ∧ B'' = B') m pl lt k T B) := by
  have fin : ∀ pl k T B, (∃ o, finK F ln pl (fun o' => o' = o) False) ∨ (∃ N T' B', finK F ln pl (fun _ => False) (k = N ∧ T = T' ∧ B = B')) := fun pl (k : Int) (T B : Int → Int) => by
    rcases lvF_fl (F := F) (en := ln) (pl := pl) with c | c
    · exact .inl ⟨_, fun _ => rfl, fun z => n10 c z⟩
    · exact .inr ⟨k, T, B, fun z => n10 z c, fun _ => ⟨rfl, rfl, rfl⟩⟩
  induction m with
  | zero =>
    intro pl lt k T B
    by_cases c : pl < be
    · exact .inl ⟨pl, fun _ => rfl, fun z => absurd c z⟩
    · rcases fin pl k T B with ⟨o, ho⟩ | ⟨N, T', B', hN⟩
      · exact .inl ⟨o, fun z => absurd z c, fun _ => ho⟩
      · exact .inr ⟨N, T', B', fun z => absurd z c, fun _ => hN⟩
  | succ m ih =>
    intro pl lt k T B
    by_cases c : pl < be
    · rcases frR_val (F := F) (be := be) (w := w) (h := h) (pn := pn) (md := md) (sl := sl) (pl := pl) (lt := lt) with ⟨o, ho⟩ | ⟨p, t, b, hp⟩
      · exact .inl ⟨o, fun z => absurd c z, fun _ => frR_mono (fun _ z => z) (fun _ _ _ z => z.elim) ho⟩
      · rcases ih p t (k + 1) (vset T k t) (vset B k b) with ⟨o, ho⟩ | ⟨N, T', B', hN⟩
        · exact .inl ⟨o, fun z => absurd c z, fun _ => frR_mono (fun _ z => z.elim) (fun p' t' b' z => by rw [z.1, z.2.1, z.2.2]; exact ho) hp⟩
        · exact .inr ⟨N, T', B', fun z => absurd c z, fun _ => frR_mono (fun _ z => z.elim) (fun p' t' b' z => by rw [z.1, z.2.1, z.2.2]; exact hN) hp⟩
    · rcases fin pl k T B with ⟨o, ho⟩ | ⟨N, T', B', hN⟩
      · exact .inl ⟨o, fun _ => ho, fun z => absurd z c⟩
      · exact .inr ⟨N, T', B', fun _ => hN, fun z => absurd z c⟩
theorem rdK_val : (∃ o, ∀ (no : Int → Prop) (ok : Int → Int → Int → Int → Int → Int → (Int → Int) → (Int → Int) → Prop), no o → rdK F ln no ok) ∨ (∃ w h pn md sl N T B, ∀ (no : Int → Prop) (ok : Int → Int → Int → Int → Int → Int → (Int → Int) → (Int → Int) → Prop), ok w h pn md sl N T B → rdK F ln no ok) := by
  rcases hdF_fl (F := F) (ln := ln) with c1 | c1
  · exact .inl ⟨_, fun no ok hn => ⟨fun _ => hn, fun z => n10 c1 z⟩⟩
  obtain ⟨be, hbe⟩ : ∃ be, (hdF F ln).2.2 = be := ⟨_, rfl⟩
  obtain ⟨p1, hp1⟩ : ∃ p1, (hdF F ln).2.1 = p1 := ⟨_, rfl⟩
  rcases tkF_fl (F := F) (be := be) (pl := p1) with c2 | c2
  · refine .inl ⟨(tkF F be p1).2.1, fun no ok hn => ⟨fun z => n10 z c1, fun _ be' p1' h1 h2 => ?_⟩⟩
    rw [hbe] at h1; rw [hp1] at h2; subst h1; subst h2
    exact ⟨fun _ => hn, fun z => n10 c2 z⟩
  obtain ⟨p2, w, h, pn, md, sl, htk⟩ : ∃ p2 w h pn md sl, tkF F be p1 = (0, p2, w, h, pn, md, sl) := ⟨_, _, _, _, _, _, by rw [← c2]⟩
  have red : ∀ (no : Int → Prop) (ok : Int → Int → Int → Int → Int → Int → (Int → Int) → (Int → Int) → Prop), fmK F ln be w h pn md sl no (ok w h pn md sl) 3 p2 (-1) 0 (fun _ => 0) (fun _ => 0) → rdK F ln no ok := fun no ok hk => by
    refine ⟨fun z => n10 z c1, fun _ be' p1' h1 h2 => ?_⟩
    rw [hbe] at h1; rw [hp1] at h2; subst h1; subst h2
    refine ⟨fun z => n10 z c2, fun _ p2' w' h' pn' md' sl' ht' => ?_⟩
    rw [htk] at ht'
    simp only [Prod.mk.injEq] at ht'
    obtain ⟨-, e1, e2, e3, e4, e5, e6⟩ := ht'
    subst e1 e2 e3 e4 e5 e6
    exact hk
  rcases fmK_val (F := F) (ln := ln) (be := be) (w := w) (h := h) (pn := pn) (md := md) (sl := sl) 3 p2 (-1) 0 (fun _ => 0) (fun _ => 0) with ⟨o, ho⟩ | ⟨N, T, B, hN⟩
  · exact .inl ⟨o, fun no ok hn => red no ok (fmK_mono (fun o' z => by rw [z]; exact hn) (fun _ _ _ z => z.elim) 3 _ _ _ _ _ ho)⟩
  · exact .inr ⟨w, h, pn, md, sl, N, T, B, fun no ok hn => red no ok (fmK_mono (fun _ z => z.elim) (fun N' T' B' z => by rw [z.1, z.2.1, z.2.2]; exact hn) 3 _ _ _ _ _ hN)⟩
theorem acc_uq {V V' : Int → Int} {fr en y0 y1 : Int} (hmd : md = 0 ∨ md = 1) (hF : ∀ j, 0 ≤ F j ∧ F j ≤ 255) (w0 : 1 ≤ w) (w1 : w ≤ 6) (hy0 : 0 ≤ y0) (hyy : y0 ≤ y1) (hy1 : y1 ≤ 6) (p0 : 0 ≤ pn) (h1 : acc md F fr en w y0 y1 pn V) (h2 : acc md F fr en w y0 y1 pn V') : agr V V' w y0 y1 pn := by
  rcases hmd with rfl | rfl
  · have q1 := dec_b (V0 := V) hF h1.1 w0 w1 hy0 hyy hy1 p0 h1.2.2
    have q2 := dec_b (V0 := V) hF h2.1 w0 w1 hy0 hyy hy1 p0 h2.2.2
    exact fun p y x k0 k1 ya yb x0 x1 => (q1 p y x k0 k1 ya yb x0 x1).symm.trans (q2 p y x k0 k1 ya yb x0 x1)
  · have q1 := dec_r (V0 := V) hF h1.1 w0 w1 hy0 hyy hy1 p0 h1.2.2
    have q2 := dec_r (V0 := V) hF h2.1 w0 w1 hy0 hyy hy1 p0 h2.2.2
    exact fun p y x k0 k1 ya yb x0 x1 => (q1 p y x k0 k1 ya yb x0 x1).symm.trans (q2 p y x k0 k1 ya yb x0 x1)
theorem bkS_agr {S S' : Int → Int} {k : Int} (hmd : md = 0 ∨ md = 1) (hF : ∀ j, 0 ≤ F j ∧ F j ≤ 255) (hs : sl = 1 ∨ sl = 2 ∨ sl = 3) (w0 : 1 ≤ w) (w1 : w ≤ 6) (h0 : 1 ≤ h) (h1 : h ≤ 6) (hp : pn = 1 ∨ pn = 3) (m : Nat) : ∀ i pl, 0 ≤ i → i + m = sl → bkS F md sl w h pn S k m i pl → bkS F md sl w h pn S' k m i pl → ∀ p y x, 0 ≤ p → p < pn → i * h / sl ≤ y → y < h → 0 ≤ x → x < w → S (108 * k + stPl p y x) = S' (108 * k + stPl p y x) ∧ 0 ≤ S (108 * k + stPl p y x) ∧ S (108 * k + stPl p y x) ≤ 255 := by
  induction m with
  | zero =>
    intro i pl i0 hi _ _ p y x k0 k1 q0 q1 x0 x1
    exfalso
    have : i = sl := by omega
    subst this
    rw [Int.mul_ediv_cancel_left _ (by omega)] at q0
    omega
  | succ m ih =>
    intro i pl i0 hi hB hB' p y x k0 k1 q0 q1 x0 x1
    have hr := row_bd hs i0 (by omega) (by omega : 0 ≤ h)
    by_cases hy : y < (i + 1) * h / sl
    · obtain ⟨⟨V, hV, hS⟩, -⟩ := hB
      obtain ⟨⟨V', hV', hS'⟩, -⟩ := hB'
      have ha := acc_uq hmd hF w0 w1 (by omega) (by omega) (by omega) (by omega) hV hV'
      rw [hS p y x k0 k1 q0 hy x0 x1, hS' p y x k0 k1 q0 hy x0 x1]
      refine ⟨(unS_congr ha hp q0 hy x0 x1 p).1, ?_⟩
      rcases hp with rfl | rfl
      · have := (hV.1 0 y x (by omega) (by omega) q0 hy x0 x1).1 rfl
        unfold unS; rw [if_pos rfl]; exact this
      · have := hV.2.1 y x q0 hy x0 x1
        rcases this with z | ⟨z1, z2, z3⟩
        · exact absurd z (by decide)
        · unfold unS; rw [if_neg (by decide)]
          rcases (by omega : p = 0 ∨ p = 1 ∨ p = 2) with rfl | rfl | rfl
          · rw [if_pos rfl]; exact z2
          · rw [if_neg (by decide), if_pos rfl]; exact z1
          · rw [if_neg (by decide), if_neg (by decide)]; exact z3
    · exact ih (i + 1) _ (by omega) (by omega) hB.2 hB'.2 p y x k0 k1 (by omega) q1 x0 x1
end S87
