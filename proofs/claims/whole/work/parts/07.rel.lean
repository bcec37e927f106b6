/-! The machine's heap and the abstract one -/
def xr_cv (b B0 : Nat) (v : Value) : Value := match v with
  | .ref 0 => .ref b
  | .ref (p + 1) => .ref (B0 + p)
  | v => v
theorem xr_cv_cat (b B0 : Nat) (v : Value) : (xr_cv b B0 v).category = v.category := by
  unfold xr_cv
  split <;> rfl
theorem xr_words (b B0 : Nat) (st : List Value) : ((st.map (xr_cv b B0)).map fun v => v.category).sum = xm_words st := by
  unfold xm_words
  rw [List.map_map]
  congr 1
  exact List.map_congr_left fun v _ => xr_cv_cat b B0 v
def xr_cell (b B0 : Nat) (cI cJ : ClassId) (h : xm_H) (i : Nat) : va_E := match (xm_S h i).1 with
  | 0 => .inr ((xm_S h i).2, (List.range (xm_N (xm_S h i).2)).map fun k => xr_cv b B0 (xm_F h i k))
  | 1 => .inl (cI, (xm_S h i).2, .inl (xm_A h i))
  | _ => .inl (cJ, (xm_S h i).2, .inr (.inl (xm_L h i)))
def xr_ws (b B0 : Nat) (cI cJ : ClassId) (h : xm_H) : va_W := (List.range (xm_n h - 1)).map fun p => (B0 + p, xr_cell b B0 cI cJ h (p + 1))
theorem xr_ws_get {b B0 : Nat} {cI cJ : ClassId} {h : xm_H} {p : Nat} (hp : p + 1 < xm_n h) : (xr_ws b B0 cI cJ h)[p]? = some (B0 + p, xr_cell b B0 cI cJ h (p + 1)) := by
  unfold xr_ws
  rw [List.getElem?_map, List.getElem?_range (by omega)]
  rfl
theorem xr_ws_len {b B0 : Nat} {cI cJ : ClassId} {h : xm_H} : (xr_ws b B0 cI cJ h).length = xm_n h - 1 := by simp [xr_ws]
theorem xr_ws_some {b B0 : Nat} {cI cJ : ClassId} {h : xm_H} {k : Nat} {q : Nat × va_E} (hk : (xr_ws b B0 cI cJ h)[k]? = some q) : k + 1 < xm_n h ∧ q = (B0 + k, xr_cell b B0 cI cJ h (k + 1)) := by
  have hl := (List.getElem?_eq_some_iff.mp hk).1
  rw [xr_ws_len] at hl
  have h1 : k + 1 < xm_n h := by omega
  rw [xr_ws_get h1] at hk
  exact ⟨h1, (Option.some.inj hk).symm⟩
theorem xr_D {b B0 : Nat} {cI cJ : ClassId} {h : xm_H} : va_D (fun q => B0 ≤ q) (xr_ws b B0 cI cJ h) := by
  refine ⟨fun i j p q hi hj he => ?_, fun k q hk => ?_⟩
  · obtain ⟨-, rfl⟩ := xr_ws_some hi
    obtain ⟨-, rfl⟩ := xr_ws_some hj
    exact Nat.add_left_cancel he
  · obtain ⟨-, rfl⟩ := xr_ws_some hk
    exact Nat.le_add_right _ _
/-- one cell has changed -/
theorem xr_upd {b B0 : Nat} {cI cJ : ClassId} {h h' : xm_H} {p : Nat} (hn : xm_n h' = xm_n h) (hp : p + 1 < xm_n h) (ho : ∀ i, i ≠ p + 1 → xr_cell b B0 cI cJ h' i = xr_cell b B0 cI cJ h i) :
    xr_ws b B0 cI cJ h' = (xr_ws b B0 cI cJ h).set p (B0 + p, xr_cell b B0 cI cJ h' (p + 1)) := by
  apply List.ext_getElem?
  intro k
  by_cases hk : k + 1 < xm_n h
  · rw [xr_ws_get (by rw [hn]; exact hk)]
    by_cases hkp : k = p
    · subst hkp
      rw [List.getElem?_set_self (by rw [xr_ws_len]; omega)]
    · rw [List.getElem?_set_ne (fun e => hkp e.symm), xr_ws_get hk, ho _ (by omega)]
  · rw [List.getElem?_eq_none (by rw [xr_ws_len, hn]; omega), List.getElem?_eq_none (by rw [List.length_set, xr_ws_len]; omega)]
theorem xr_row {α β : Type} (g : α → β) (f : Nat → α) (N k : Nat) (v : α) : (List.range N).map (fun j => g (va_up f k v j)) = ((List.range N).map (fun j => g (f j))).set k (g v) := by
  apply List.ext_getElem?
  intro j
  by_cases hj : j < N
  · rw [List.getElem?_map, List.getElem?_range hj]
    by_cases hjk : j = k
    · subst hjk
      rw [List.getElem?_set_self (by simpa using hj)]
      simp [va_up]
    · rw [List.getElem?_set_ne (fun e => hjk e.symm), List.getElem?_map, List.getElem?_range hj]
      simp [va_up, hjk]
  · rw [List.getElem?_eq_none (by simpa using hj), List.getElem?_eq_none (by simpa using hj)]
theorem xr_fields {b B0 : Nat} {h : xm_H} {i ci k : Nat} (hk : k < xm_N ci) : ((List.range (xm_N ci)).map fun k => xr_cv b B0 (xm_F h i k))[k]? = some (xr_cv b B0 (xm_F h i k)) := by
  rw [List.getElem?_map, List.getElem?_range hk]
  rfl
theorem xr_setF {b B0 : Nat} {cI cJ : ClassId} {h : xm_H} {p ci k : Nat} {v : Value} (hp : p + 1 < xm_n h) (hs : xm_S h (p + 1) = (0, ci)) :
    xr_ws b B0 cI cJ (xm_setF h (p + 1) k v) = (xr_ws b B0 cI cJ h).set p (B0 + p, .inr (ci, ((List.range (xm_N ci)).map fun k => xr_cv b B0 (xm_F h (p + 1) k)).set k (xr_cv b B0 v))) := by
  rw [xr_upd (h := h) (h' := xm_setF h (p + 1) k v) (p := p) rfl hp (fun i hi => ?_)]
  · congr 2
    have hs' : xm_S (xm_setF h (p + 1) k v) (p + 1) = (0, ci) := hs
    unfold xr_cell
    rw [hs']
    have e : xm_F (xm_setF h (p + 1) k v) (p + 1) = va_up (xm_F h (p + 1)) k v := va_up_self _ _ _
    rw [e, ← xr_row (xr_cv b B0)]
    rfl
  · have e : xm_F (xm_setF h (p + 1) k v) i = xm_F h i := va_up_ne _ _ hi
    unfold xr_cell
    rw [show xm_S (xm_setF h (p + 1) k v) i = xm_S h i from rfl, e]
    rfl
theorem xr_setA {b B0 : Nat} {cI cJ : ClassId} {h : xm_H} {p n : Nat} {f : Nat → Int32} (hp : p + 1 < xm_n h) (hs : xm_S h (p + 1) = (1, n)) :
    xr_ws b B0 cI cJ (xm_setA h (p + 1) f) = (xr_ws b B0 cI cJ h).set p (B0 + p, .inl (cI, n, .inl f)) := by
  rw [xr_upd (h := h) (h' := xm_setA h (p + 1) f) (p := p) rfl hp (fun i hi => ?_)]
  · congr 2
    have hs' : xm_S (xm_setA h (p + 1) f) (p + 1) = (1, n) := hs
    have e : xm_A (xm_setA h (p + 1) f) (p + 1) = f := va_up_self _ _ _
    unfold xr_cell
    rw [hs', e]
    rfl
  · have e : xm_A (xm_setA h (p + 1) f) i = xm_A h i := va_up_ne _ _ hi
    unfold xr_cell
    rw [show xm_S (xm_setA h (p + 1) f) i = xm_S h i from rfl, e]
    rfl
theorem xr_setL {b B0 : Nat} {cI cJ : ClassId} {h : xm_H} {p n k : Nat} {v : Int64} (hp : p + 1 < xm_n h) (hs : xm_S h (p + 1) = (2, n)) :
    xr_ws b B0 cI cJ (xm_setL h (p + 1) k v) = (xr_ws b B0 cI cJ h).set p (B0 + p, .inl (cJ, n, .inr (.inl (va_up (xm_L h (p + 1)) k v)))) := by
  rw [xr_upd (h := h) (h' := xm_setL h (p + 1) k v) (p := p) rfl hp (fun i hi => ?_)]
  · congr 2
    have hs' : xm_S (xm_setL h (p + 1) k v) (p + 1) = (2, n) := hs
    have e : xm_L (xm_setL h (p + 1) k v) (p + 1) = va_up (xm_L h (p + 1)) k v := va_up_self _ _ _
    unfold xr_cell
    rw [hs', e]
    rfl
  · have e : xm_L (xm_setL h (p + 1) k v) i = xm_L h i := va_up_ne _ _ hi
    unfold xr_cell
    rw [show xm_S (xm_setL h (p + 1) k v) i = xm_S h i from rfl, e]
    rfl
/-- a cell more -/
theorem xr_new {b B0 : Nat} {cI cJ : ClassId} {h : xm_H} {sh : Nat × Nat} {f : Nat → Value} {N : Nat} (hn : 1 ≤ xm_n h) :
    xr_ws b B0 cI cJ (xm_new h sh f N) = xr_ws b B0 cI cJ h ++ [(B0 + (xm_n h - 1), xr_cell b B0 cI cJ (xm_new h sh f N) (xm_n h))] := by
  have hn' : xm_n (xm_new h sh f N) - 1 = (xm_n h - 1) + 1 := by show xm_n h + 1 - 1 = _; omega
  have he : xm_n h - 1 + 1 = xm_n h := by omega
  unfold xr_ws
  rw [hn', List.range_succ, List.map_append, List.map_cons, List.map_nil, he]
  congr 1
  refine List.map_congr_left fun q hq => ?_
  have hq' : q + 1 ≠ xm_n h := by have := List.mem_range.mp hq; omega
  have e1 : xm_S (xm_new h sh f N) (q + 1) = xm_S h (q + 1) := by show va_up _ _ _ _ = _; exact va_up_ne _ _ hq'
  have e2 : xm_F (xm_new h sh f N) (q + 1) = xm_F h (q + 1) := by show va_up _ _ _ _ = _; exact va_up_ne _ _ hq'
  have e3 : xm_A (xm_new h sh f N) (q + 1) = xm_A h (q + 1) := by show va_up _ _ _ _ = _; exact va_up_ne _ _ hq'
  have e4 : xm_L (xm_new h sh f N) (q + 1) = xm_L h (q + 1) := by show va_up _ _ _ _ = _; exact va_up_ne _ _ hq'
  unfold xr_cell
  rw [e1, e2, e3, e4]
/-- local variables: 'null' says nothing -/
def xr_Ls (b B0 : Nat) (LS : Array Slot) (nL : Nat) (ls : List Value) : Prop := LS.size = nL ∧ ls.length = nL ∧ lv_wf LS ∧ ∀ (i : Nat) (v : Value), ls[i]? = some v → v ≠ .null → LS[i]? = some (.val (xr_cv b B0 v))
theorem xr_Ls.get {b B0 : Nat} {LS : Array Slot} {nL : Nat} {ls : List Value} (h : xr_Ls b B0 LS nL ls) {i : Nat} {v : Value} (hv : xm_get ls i = v) (hn : v ≠ .null) : LS[i]? = some (.val (xr_cv b B0 v)) := by
  refine h.2.2.2 i v ?_ hn
  unfold xm_get at hv
  rw [List.getD_eq_getElem?_getD] at hv
  cases he : ls[i]? with
  | none => rw [he] at hv; exact absurd hv.symm hn
  | some w => rw [he] at hv; exact congrArg some hv
def xr_lv (b B0 : Nat) (ls : List Value) : List (Nat × Value) := (List.range ls.length).filterMap fun i => match ls[i]? with
  | some v => if v = .null then none else some (i, xr_cv b B0 v)
  | none => none
theorem xr_lv_mem {b B0 : Nat} {ls : List Value} {q : Nat × Value} : q ∈ xr_lv b B0 ls ↔ ∃ v, ls[q.1]? = some v ∧ v ≠ .null ∧ q.2 = xr_cv b B0 v := by
  unfold xr_lv
  rw [List.mem_filterMap]
  constructor
  · rintro ⟨i, -, hi⟩
    cases he : ls[i]? with
    | none => rw [he] at hi; cases hi
    | some v =>
      rw [he] at hi
      dsimp only at hi
      by_cases hv : v = .null
      · rw [if_pos hv] at hi; cases hi
      · rw [if_neg hv] at hi
        cases hi
        exact ⟨v, he, hv, rfl⟩
  · rintro ⟨v, h1, h2, h3⟩
    refine ⟨q.1, List.mem_range.mpr (List.getElem?_eq_some_iff.mp h1).1, ?_⟩
    rw [h1]
    show (if v = .null then none else some (q.1, xr_cv b B0 v)) = some q
    rw [if_neg h2, ← h3]
theorem xr_Ls.has {b B0 : Nat} {LS : Array Slot} {nL : Nat} {ls : List Value} (h : xr_Ls b B0 LS nL ls) : lv_has LS nL (xr_lv b B0 ls) := by
  refine ⟨h.1, h.2.2.1, fun q hq => ?_⟩
  obtain ⟨v, h1, h2, h3⟩ := xr_lv_mem.mp hq
  rw [h3]
  exact h.2.2.2 _ _ h1 h2
theorem xm_wide_len (ls : List Value) (i : Nat) : (xm_wide ls i).length = ls.length := by
  unfold xm_wide
  split
  · rfl
  · split
    · exact List.length_set
    · rfl
theorem xm_put1_len (ls : List Value) (i : Nat) (v : Value) : (xm_put1 ls i v).length = ls.length := by
  unfold xm_put1
  rw [List.length_set, xm_wide_len]
theorem xm_put2_len (ls : List Value) (i : Nat) (v : Value) : (xm_put2 ls i v).length = ls.length := by
  unfold xm_put2
  rw [List.length_set, List.length_set, xm_wide_len]
theorem xm_wide_get {ls : List Value} {i j : Nat} {w : Value} (h : (xm_wide ls i)[j]? = some w) (hw : w ≠ .null) : ls[j]? = some w ∧ ¬ (j + 1 = i ∧ w.category = 2) := by
  unfold xm_wide at h
  split at h
  · exact ⟨h, fun q => by omega⟩
  · rename_i k
    split at h
    · rename_i hc
      by_cases hj : j = k
      · subst hj
        by_cases hl : j < ls.length
        · rw [List.getElem?_set_self hl] at h
          exact absurd (Option.some.inj h).symm hw
        · rw [List.getElem?_eq_none (by rw [List.length_set]; omega)] at h
          cases h
      · rw [List.getElem?_set_ne (fun e => hj e.symm)] at h
        exact ⟨h, fun q => by omega⟩
    · rename_i hc
      refine ⟨h, fun q => ?_⟩
      have hj : j = k := by omega
      subst hj
      rw [List.getD_eq_getElem?_getD, h] at hc
      exact hc q.2
theorem xr_Ls.put1 {b B0 : Nat} {LS LS' : Array Slot} {nL : Nat} {ls : List Value} {i : Nat} {v : Value} (h : xr_Ls b B0 LS nL ls) (hi : i < nL)
    (h' : lv_has LS' nL ((i, xr_cv b B0 v) :: (xr_lv b B0 ls).filter (fun q => !(q.1 == i) && !(q.1 + 1 == i && q.2.category == 2)))) : xr_Ls b B0 LS' nL (xm_put1 ls i v) := by
  refine ⟨h'.1, by rw [xm_put1_len]; exact h.2.1, h'.2.1, fun j w hj hw => ?_⟩
  unfold xm_put1 at hj
  by_cases hji : j = i
  · subst hji
    rw [List.getElem?_set_self (by rw [xm_wide_len, h.2.1]; exact hi)] at hj
    cases hj
    exact h'.2.2 (j, xr_cv b B0 v) List.mem_cons_self
  · rw [List.getElem?_set_ne (fun e => hji e.symm)] at hj
    obtain ⟨h1, h2⟩ := xm_wide_get hj hw
    refine h'.2.2 (j, xr_cv b B0 w) (List.mem_cons_of_mem _ (List.mem_filter.mpr ⟨xr_lv_mem.mpr ⟨w, h1, hw, rfl⟩, ?_⟩))
    simp only [xr_cv_cat, Bool.and_eq_true, Bool.not_eq_true', beq_eq_false_iff_ne, Bool.and_eq_false_iff]
    refine ⟨hji, ?_⟩
    by_cases h3 : j + 1 = i
    · exact Or.inr fun h4 => h2 ⟨h3, h4⟩
    · exact Or.inl h3
theorem xr_Ls.put2 {b B0 : Nat} {LS LS' : Array Slot} {nL : Nat} {ls : List Value} {i : Nat} {v : Value} (h : xr_Ls b B0 LS nL ls) (hi : i + 1 < nL)
    (h' : lv_has LS' nL ((i, xr_cv b B0 v) :: (xr_lv b B0 ls).filter (fun q => !(q.1 == i) && (!(q.1 == i + 1) && !(q.1 + 1 == i && q.2.category == 2))))) : xr_Ls b B0 LS' nL (xm_put2 ls i v) := by
  refine ⟨h'.1, by rw [xm_put2_len]; exact h.2.1, h'.2.1, fun j w hj hw => ?_⟩
  unfold xm_put2 at hj
  by_cases hji : j = i
  · subst hji
    rw [List.getElem?_set_self (by rw [List.length_set, xm_wide_len, h.2.1]; omega)] at hj
    cases hj
    exact h'.2.2 (j, xr_cv b B0 v) List.mem_cons_self
  · rw [List.getElem?_set_ne (fun e => hji e.symm)] at hj
    by_cases hj1 : j = i + 1
    · subst hj1
      rw [List.getElem?_set_self (by rw [xm_wide_len, h.2.1]; omega)] at hj
      exact absurd (Option.some.inj hj).symm hw
    · rw [List.getElem?_set_ne (fun e => hj1 e.symm)] at hj
      obtain ⟨h1, h2⟩ := xm_wide_get hj hw
      refine h'.2.2 (j, xr_cv b B0 w) (List.mem_cons_of_mem _ (List.mem_filter.mpr ⟨xr_lv_mem.mpr ⟨w, h1, hw, rfl⟩, ?_⟩))
      simp only [xr_cv_cat, Bool.and_eq_true, Bool.not_eq_true', beq_eq_false_iff_ne, Bool.and_eq_false_iff]
      refine ⟨hji, hj1, ?_⟩
      by_cases h3 : j + 1 = i
      · exact Or.inr fun h4 => h2 ⟨h3, h4⟩
      · exact Or.inl h3
/-- a catch: the place holds something, nobody asks what -/
theorem xr_Ls.drop {b B0 : Nat} {LS LS' : Array Slot} {nL : Nat} {ls : List Value} {i : Nat} {x : Value} (h : xr_Ls b B0 LS nL ls) (hi : i < nL)
    (h' : lv_has LS' nL ((i, x) :: (xr_lv b B0 ls).filter (fun q => !(q.1 == i) && !(q.1 + 1 == i && q.2.category == 2)))) : xr_Ls b B0 LS' nL (xm_put1 ls i .null) := by
  refine ⟨h'.1, by rw [xm_put1_len]; exact h.2.1, h'.2.1, fun j w hj hw => ?_⟩
  unfold xm_put1 at hj
  by_cases hji : j = i
  · subst hji
    rw [List.getElem?_set_self (by rw [xm_wide_len, h.2.1]; exact hi)] at hj
    exact absurd (Option.some.inj hj).symm hw
  · rw [List.getElem?_set_ne (fun e => hji e.symm)] at hj
    obtain ⟨h1, h2⟩ := xm_wide_get hj hw
    refine h'.2.2 (j, xr_cv b B0 w) (List.mem_cons_of_mem _ (List.mem_filter.mpr ⟨xr_lv_mem.mpr ⟨w, h1, hw, rfl⟩, ?_⟩))
    simp only [xr_cv_cat, Bool.and_eq_true, Bool.not_eq_true', beq_eq_false_iff_ne, Bool.and_eq_false_iff]
    refine ⟨hji, ?_⟩
    by_cases h3 : j + 1 = i
    · exact Or.inr fun h4 => h2 ⟨h3, h4⟩
    · exact Or.inl h3
/-- at a method's entry -/
theorem xr_slots (b B0 : Nat) : ∀ (vs : List Value) (i : Nat) (v : Value), (xm_slots vs)[i]? = some v → v ≠ .null → (lg_sl (vs.map (xr_cv b B0)))[i]? = some (.val (xr_cv b B0 v))
  | [], i, v, h, _ => by simp [xm_slots] at h
  | w :: t, i, v, h, hv => by
    have ih := xr_slots b B0 t
    unfold xm_slots at h
    rw [List.flatMap_cons] at h
    rw [List.map_cons]
    unfold lg_sl
    rw [List.flatMap_cons, xr_cv_cat]
    by_cases hc : w.category = 2
    · rw [if_pos hc] at h ⊢
      match i with
      | 0 => simp at h; subst h; simp
      | 1 => simp at h; exact absurd h.symm hv
      | j + 2 =>
        have h3 : (xm_slots t)[j]? = some v := by simpa [xm_slots] using h
        have := ih j v h3 hv
        simpa [lg_sl] using this
    · rw [if_neg hc] at h ⊢
      match i with
      | 0 => simp at h; subst h; simp
      | j + 1 =>
        have h3 : (xm_slots t)[j]? = some v := by simpa [xm_slots] using h
        have := ih j v h3 hv
        simpa [lg_sl] using this
theorem xr_slots_len (b B0 : Nat) (vs : List Value) : (lg_sl (vs.map (xr_cv b B0))).length = (xm_slots vs).length := by
  induction vs with
  | nil => rfl
  | cons v t ih =>
    unfold lg_sl xm_slots at *
    rw [List.map_cons, List.flatMap_cons, List.flatMap_cons, List.length_append, List.length_append, ih, xr_cv_cat]
    by_cases hc : v.category = 2
    · rw [if_pos hc, if_pos hc]; rfl
    · rw [if_neg hc, if_neg hc]; rfl
theorem xr_Ls.entry (b B0 : Nat) {vs : List Value} {n : Nat} (hn : (xm_slots vs).length ≤ n) :
    xr_Ls b B0 ((lg_sl (vs.map (xr_cv b B0)) ++ List.replicate (n - (lg_sl (vs.map (xr_cv b B0))).length) Slot.unset).toArray) n (xm_locals vs n) := by
  have h := lv_entry (vs.map (xr_cv b B0)) (n := n) (by rw [xr_slots_len]; exact hn)
  refine ⟨h.1, by unfold xm_locals; rw [List.length_append, List.length_replicate]; omega, h.2.1, fun i v hi hv => ?_⟩
  unfold xm_locals at hi
  by_cases hl : i < (xm_slots vs).length
  · rw [List.getElem?_append_left hl] at hi
    have := xr_slots b B0 vs i v hi hv
    rw [List.getElem?_toArray, List.getElem?_append_left (by rw [xr_slots_len]; exact hl)]
    exact this
  · rw [List.getElem?_append_right (by omega)] at hi
    have := List.mem_of_getElem? hi
    exact absurd (List.eq_of_mem_replicate this) hv
