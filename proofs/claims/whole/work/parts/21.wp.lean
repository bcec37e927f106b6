/-! WHAT THE MACHINE COMES TO: xT, xTC -/
section XN
variable {mi pc : Nat}
/-- a step ends, or goes on, or calls: whatever 'go' and 'ca' are -/
def xn (mi pc : Nat) (F : (Nat → List Value → List Value → xm_H → xm_R) → (Nat → List Value → xm_H → xm_R) → xm_R) : Prop :=
  (∃ r, ∀ go ca, F go ca = r) ∨ (∃ p l s h, ∀ go ca, F go ca = go p l s h) ∨ (∃ ls rest mj vs h, ∀ go ca, F go ca = xm_after mi pc go ls rest (ca mj vs h))
theorem xn_c (r : xm_R) : xn mi pc (fun _ _ => r) := .inl ⟨r, fun _ _ => rfl⟩
theorem xn_go (p : Nat) (l s : List Value) (h : xm_H) : xn mi pc (fun go _ => go p l s h) := .inr (.inl ⟨p, l, s, h, fun _ _ => rfl⟩)
theorem xn_af (ls rest : List Value) (mj : Nat) (vs : List Value) (h : xm_H) : xn mi pc (fun go ca => xm_after mi pc go ls rest (ca mj vs h)) := .inr (.inr ⟨ls, rest, mj, vs, h, fun _ _ => rfl⟩)
theorem xn_ite {c : Prop} {dc : Decidable c} {F G : (Nat → List Value → List Value → xm_H → xm_R) → (Nat → List Value → xm_H → xm_R) → xm_R} (hF : xn mi pc F) (hG : xn mi pc G) : xn mi pc (fun go ca => if c then F go ca else G go ca) := by
  by_cases h : c
  · simpa [h] using hF
  · simpa [h] using hG
theorem xn_1i {st : List Value} {k : (Nat → List Value → List Value → xm_H → xm_R) → (Nat → List Value → xm_H → xm_R) → Int32 → List Value → xm_R} (hk : ∀ x0 x1, xn mi pc (fun go ca => k go ca x0 x1)) : xn mi pc (fun go ca => xm_1i st (k go ca)) := by
  unfold xm_1i
  split
  · exact hk _ _
  · exact xn_c none
theorem xn_2i {st : List Value} {k : (Nat → List Value → List Value → xm_H → xm_R) → (Nat → List Value → xm_H → xm_R) → Int32 → Int32 → List Value → xm_R} (hk : ∀ x0 x1 x2, xn mi pc (fun go ca => k go ca x0 x1 x2)) : xn mi pc (fun go ca => xm_2i st (k go ca)) := by
  unfold xm_2i
  split
  · exact hk _ _ _
  · exact xn_c none
theorem xn_3i {st : List Value} {k : (Nat → List Value → List Value → xm_H → xm_R) → (Nat → List Value → xm_H → xm_R) → Nat → Int32 → Int32 → List Value → xm_R} (hk : ∀ x0 x1 x2 x3, xn mi pc (fun go ca => k go ca x0 x1 x2 x3)) : xn mi pc (fun go ca => xm_3i st (k go ca)) := by
  unfold xm_3i
  split
  · exact hk _ _ _ _
  · exact xn_c none
theorem xn_3l {st : List Value} {k : (Nat → List Value → List Value → xm_H → xm_R) → (Nat → List Value → xm_H → xm_R) → Nat → Int32 → Int64 → List Value → xm_R} (hk : ∀ x0 x1 x2 x3, xn mi pc (fun go ca => k go ca x0 x1 x2 x3)) : xn mi pc (fun go ca => xm_3l st (k go ca)) := by
  unfold xm_3l
  split
  · exact hk _ _ _ _
  · exact xn_c none
theorem xn_1l {st : List Value} {k : (Nat → List Value → List Value → xm_H → xm_R) → (Nat → List Value → xm_H → xm_R) → Int64 → List Value → xm_R} (hk : ∀ x0 x1, xn mi pc (fun go ca => k go ca x0 x1)) : xn mi pc (fun go ca => xm_1l st (k go ca)) := by
  unfold xm_1l
  split
  · exact hk _ _
  · exact xn_c none
theorem xn_2l {st : List Value} {k : (Nat → List Value → List Value → xm_H → xm_R) → (Nat → List Value → xm_H → xm_R) → Int64 → Int64 → List Value → xm_R} (hk : ∀ x0 x1 x2, xn mi pc (fun go ca => k go ca x0 x1 x2)) : xn mi pc (fun go ca => xm_2l st (k go ca)) := by
  unfold xm_2l
  split
  · exact hk _ _ _
  · exact xn_c none
theorem xn_il {st : List Value} {k : (Nat → List Value → List Value → xm_H → xm_R) → (Nat → List Value → xm_H → xm_R) → Int64 → Int32 → List Value → xm_R} (hk : ∀ x0 x1 x2, xn mi pc (fun go ca => k go ca x0 x1 x2)) : xn mi pc (fun go ca => xm_il st (k go ca)) := by
  unfold xm_il
  split
  · exact hk _ _ _
  · exact xn_c none
theorem xn_1r {st : List Value} {k : (Nat → List Value → List Value → xm_H → xm_R) → (Nat → List Value → xm_H → xm_R) → Nat → List Value → xm_R} (hk : ∀ x0 x1, xn mi pc (fun go ca => k go ca x0 x1)) : xn mi pc (fun go ca => xm_1r st (k go ca)) := by
  unfold xm_1r
  split
  · exact hk _ _
  · exact xn_c none
theorem xn_ri {st : List Value} {k : (Nat → List Value → List Value → xm_H → xm_R) → (Nat → List Value → xm_H → xm_R) → Nat → Int32 → List Value → xm_R} (hk : ∀ x0 x1 x2, xn mi pc (fun go ca => k go ca x0 x1 x2)) : xn mi pc (fun go ca => xm_ri st (k go ca)) := by
  unfold xm_ri
  split
  · exact hk _ _ _
  · exact xn_c none
theorem xn_vr {st : List Value} {k : (Nat → List Value → List Value → xm_H → xm_R) → (Nat → List Value → xm_H → xm_R) → Nat → Value → List Value → xm_R} (hk : ∀ x0 x1 x2, xn mi pc (fun go ca => k go ca x0 x1 x2)) : xn mi pc (fun go ca => xm_vr st (k go ca)) := by
  unfold xm_vr
  split
  · exact hk _ _ _
  · exact xn_c none
theorem xn_5 {st : List Value} {k : (Nat → List Value → List Value → xm_H → xm_R) → (Nat → List Value → xm_H → xm_R) → Nat → Int32 → Nat → Int32 → Int32 → List Value → xm_R} (hk : ∀ x0 x1 x2 x3 x4 x5, xn mi pc (fun go ca => k go ca x0 x1 x2 x3 x4 x5)) : xn mi pc (fun go ca => xm_5 st (k go ca)) := by
  unfold xm_5
  split
  · exact hk _ _ _ _ _ _
  · exact xn_c none
theorem xn_1v {st : List Value} {k : (Nat → List Value → List Value → xm_H → xm_R) → (Nat → List Value → xm_H → xm_R) → Value → List Value → xm_R} (hk : ∀ x0 x1, xn mi pc (fun go ca => k go ca x0 x1)) : xn mi pc (fun go ca => xm_1v st (k go ca)) := by
  unfold xm_1v
  split
  · exact xn_ite (hk _ _) (xn_c none)
  · exact xn_c none
theorem xn_2v {st : List Value} {k : (Nat → List Value → List Value → xm_H → xm_R) → (Nat → List Value → xm_H → xm_R) → Value → Value → List Value → xm_R} (hk : ∀ x0 x1 x2, xn mi pc (fun go ca => k go ca x0 x1 x2)) : xn mi pc (fun go ca => xm_2v st (k go ca)) := by
  unfold xm_2v
  split
  · exact xn_ite (hk _ _ _) (xn_c none)
  · exact xn_c none
theorem xn_recv {v : Value} {k : (Nat → List Value → List Value → xm_H → xm_R) → (Nat → List Value → xm_H → xm_R) → Nat → xm_R} (hk : ∀ a, xn mi pc (fun go ca => k go ca a)) : xn mi pc (fun go ca => xm_recv v (k go ca)) := by
  unfold xm_recv
  split
  · exact hk _
  · exact xn_c none
theorem xn_jump {off : Int} {k : (Nat → List Value → List Value → xm_H → xm_R) → (Nat → List Value → xm_H → xm_R) → Nat → xm_R} (hk : ∀ a, xn mi pc (fun go ca => k go ca a)) : xn mi pc (fun go ca => xm_jump pc off (k go ca)) := by
  unfold xm_jump
  exact xn_ite (hk _) (xn_c none)
theorem xn_ld {ok : Value → Bool} {ls st : List Value} {i : Nat} {k : (Nat → List Value → List Value → xm_H → xm_R) → (Nat → List Value → xm_H → xm_R) → List Value → xm_R} (hk : ∀ a, xn mi pc (fun go ca => k go ca a)) : xn mi pc (fun go ca => xm_ld ok ls st i (k go ca)) := by
  unfold xm_ld
  exact xn_ite (hk _) (xn_c none)
theorem xn_st1 {ok : Value → Bool} {ls st : List Value} {i : Nat} {k : (Nat → List Value → List Value → xm_H → xm_R) → (Nat → List Value → xm_H → xm_R) → List Value → List Value → xm_R} (hk : ∀ a b, xn mi pc (fun go ca => k go ca a b)) : xn mi pc (fun go ca => xm_st1 ok ls st i (k go ca)) := by
  unfold xm_st1
  split
  · exact xn_ite (hk _ _) (xn_c none)
  · exact xn_c none
theorem xn_st2 {ls st : List Value} {i : Nat} {k : (Nat → List Value → List Value → xm_H → xm_R) → (Nat → List Value → xm_H → xm_R) → List Value → List Value → xm_R} (hk : ∀ a b, xn mi pc (fun go ca => k go ca a b)) : xn mi pc (fun go ca => xm_st2 ls st i (k go ca)) := by
  unfold xm_st2
  split
  · exact xn_ite (hk _ _) (xn_c none)
  · exact xn_c none
set_option maxHeartbeats 2000000 in
theorem xn_step (d : Nat) (ls st : List Value) (h : xm_H) (i : Instr) : xn mi pc (fun go ca => xm_step mi go ca d pc ls st h i) := by
  unfold xm_step
  split
  all_goals
    repeat' (first
      | exact xn_go _ _ _ _
      | exact xn_af _ _ _ _ _
      | exact xn_c _
      | refine xn_ite ?_ ?_
      | (refine xn_1i ?_; intro _ _)
      | (refine xn_2i ?_; intro _ _ _)
      | (refine xn_3i ?_; intro _ _ _ _)
      | (refine xn_3l ?_; intro _ _ _ _)
      | (refine xn_1l ?_; intro _ _)
      | (refine xn_2l ?_; intro _ _ _)
      | (refine xn_il ?_; intro _ _ _)
      | (refine xn_1r ?_; intro _ _)
      | (refine xn_ri ?_; intro _ _ _)
      | (refine xn_vr ?_; intro _ _ _)
      | (refine xn_1v ?_; intro _ _)
      | (refine xn_2v ?_; intro _ _ _)
      | (refine xn_5 ?_; intro _ _ _ _ _ _)
      | (refine xn_recv ?_; intro _)
      | (refine xn_jump ?_; intro _)
      | (refine xn_ld ?_; intro _)
      | (refine xn_st1 ?_; intro _ _)
      | (refine xn_st2 ?_; intro _ _)
      | split)
end XN
theorem xm_mono1 (n : Nat) : ∀ (d mi pc : Nat) (ls st : List Value) (h : xm_H) (r : xm_H × Outcome), xm_run n d mi pc ls st h = some r → xm_run (n + 1) d mi pc ls st h = some r := by
  induction n with
  | zero => intro d mi pc ls st h r hr; simp [xm_run] at hr
  | succ n ih =>
    intro d mi pc ls st h r hr
    unfold xm_run at hr ⊢
    split
    · rename_i i len hdec
      rw [hdec] at hr
      dsimp only at hr
      split
      · rename_i hlen
        rw [if_pos hlen] at hr
        rcases xn_step (mi := mi) (pc := pc) d ls st h i with ⟨r', h1⟩ | ⟨p, l, s, h', h1⟩ | ⟨ls', rest, mj, vs, h', h1⟩
        · dsimp only at h1; rw [h1] at hr ⊢; exact hr
        · dsimp only at h1; rw [h1] at hr ⊢; exact ih _ _ _ _ _ _ _ hr
        · dsimp only at h1; rw [h1] at hr ⊢
          unfold xm_after at hr ⊢
          cases d with
          | zero => simp at hr
          | succ d' =>
            dsimp only at hr ⊢
            by_cases hx : (xm_slots vs).length ≤ xm_maxL mj ∧ xm_maxL mj ≤ 14
            · rw [if_pos hx] at hr ⊢
              cases hc : xm_run n d' mj 0 (xm_locals vs (xm_maxL mj)) [] h' with
              | none => rw [hc] at hr; simp at hr
              | some q =>
                rw [ih _ _ _ _ _ _ _ hc]
                rw [hc] at hr
                obtain ⟨hq, oq⟩ := q
                cases oq with
                | returned v => exact ih _ _ _ _ _ _ _ hr
                | threw ex =>
                  dsimp only at hr ⊢
                  split at hr
                  · rename_i t ht
                    split at hr
                    · rename_i k hk
                      split at hr
                      · rename_i hz; simp only [if_pos hz]; exact ih _ _ _ _ _ _ _ hr
                      · cases hr
                    · rename_i k hk
                      split at hr
                      · rename_i hz; simp only [if_pos hz]; exact ih _ _ _ _ _ _ _ hr
                      · cases hr
                    · cases hr
                  · cases hr
            · rw [if_neg hx] at hr; cases hr
      · rename_i hlen
        rw [if_neg hlen] at hr; cases hr
    · rename_i e hdec; rw [hdec] at hr; cases hr
theorem xm_mono {n k : Nat} {d mi pc : Nat} {ls st : List Value} {h : xm_H} {r : xm_H × Outcome} (hr : xm_run n d mi pc ls st h = some r) (hk : n ≤ k) : xm_run k d mi pc ls st h = some r := by
  obtain ⟨j, rfl⟩ := Nat.exists_eq_add_of_le hk
  induction j with
  | zero => exact hr
  | succ j ih => exact xm_mono1 _ _ _ _ _ _ _ _ (ih (by omega))
/-- the machine comes to something that Q holds of -/
def xT (d mi pc : Nat) (ls st : List Value) (h : xm_H) (Q : xm_H × Outcome → Prop) : Prop := ∃ n r, xm_run n d mi pc ls st h = some r ∧ Q r
def xTC (d mj : Nat) (vs : List Value) (h : xm_H) (Q : xm_H × Outcome → Prop) : Prop := xT d mj 0 (xm_locals vs (xm_maxL mj)) [] h Q
theorem xT.mono {d mi pc : Nat} {ls st : List Value} {h : xm_H} {Q Q' : xm_H × Outcome → Prop} (hT : xT d mi pc ls st h Q) (hq : ∀ r, Q r → Q' r) : xT d mi pc ls st h Q' := by
  obtain ⟨n, r, h1, h2⟩ := hT
  exact ⟨n, r, h1, hq r h2⟩
theorem xTC.mono {d mj : Nat} {vs : List Value} {h : xm_H} {Q Q' : xm_H × Outcome → Prop} (hT : xTC d mj vs h Q) (hq : ∀ r, Q r → Q' r) : xTC d mj vs h Q' := xT.mono hT hq
/-- behind a call -/
def xAf (d mi pc : Nat) (ls rest : List Value) (Q : xm_H × Outcome → Prop) (r : xm_H × Outcome) : Prop := match r with
  | (h, .returned v) => xT d mi (pc + 3) ls (v.toList ++ rest) h Q
  | (h, .threw ex) => match xm_catch mi pc ex with
    | some t => match decode (xm_code mi) t with
      | .ok (.astore k, 2) => if k < ls.length then xT d mi (t + 2) (xm_put1 ls k .null) [] h Q else False
      | .ok (.astore_n k, 1) => if k.val < ls.length then xT d mi (t + 1) (xm_put1 ls k .null) [] h Q else False
      | _ => False
    | none => False
/-- the instruction at a place -/
def xq (mi pc : Nat) (i : Instr) : Bool := match decode (xm_code mi) pc with
  | .ok (j, len) => decide (j = i) && (decide (xm_len j = 0) || decide (xm_len j = len))
  | .error _ => false
theorem xm_run_q {mi pc : Nat} {i : Instr} (hq : xq mi pc i = true) (n d : Nat) (ls st : List Value) (h : xm_H) : xm_run (n + 1) d mi pc ls st h = xm_step mi (fun pc ls st h => xm_run n d mi pc ls st h) (fun mj vs h => match d with
          | 0 => none
          | d' + 1 => if (xm_slots vs).length ≤ xm_maxL mj ∧ xm_maxL mj ≤ 14 then xm_run n d' mj 0 (xm_locals vs (xm_maxL mj)) [] h else none) d pc ls st h i := by
  unfold xq at hq
  conv => lhs; unfold xm_run
  split at hq
  · rename_i j len hd
    rw [hd]
    simp only [Bool.and_eq_true, decide_eq_true_eq, Bool.or_eq_true] at hq
    obtain ⟨rfl, h2⟩ := hq
    dsimp only
    rw [if_pos h2]
    rfl
  · cases hq
theorem xT_pos {d mi pc : Nat} {ls st : List Value} {h : xm_H} {Q : xm_H × Outcome → Prop} : xT d mi pc ls st h Q ↔ ∃ n r, xm_run (n + 1) d mi pc ls st h = some r ∧ Q r := by
  constructor
  · rintro ⟨n, r, h1, h2⟩; exact ⟨n, r, xm_mono1 _ _ _ _ _ _ _ _ h1, h2⟩
  · rintro ⟨n, r, h1, h2⟩; exact ⟨n + 1, r, h1, h2⟩
section XT
variable {d mi pc : Nat} {ls st : List Value} {h : xm_H} {Q : xm_H × Outcome → Prop} {i : Instr}
theorem xT_go {pc' : Nat} {ls' st' : List Value} {h' : xm_H} (hq : xq mi pc i = true) (hs : ∀ go ca, xm_step mi go ca d pc ls st h i = go pc' ls' st' h') : xT d mi pc ls st h Q ↔ xT d mi pc' ls' st' h' Q := by
  rw [xT_pos]
  simp only [xm_run_q hq, hs]
  rfl
theorem xT_ret {r : xm_H × Outcome} (hq : xq mi pc i = true) (hs : ∀ go ca, xm_step mi go ca d pc ls st h i = some r) : xT d mi pc ls st h Q ↔ Q r := by
  rw [xT_pos]
  simp only [xm_run_q hq, hs, Option.some.injEq, exists_eq_left', exists_const]
theorem xT_call {mj : Nat} {vs rest ls' : List Value} {h' : xm_H} (hq : xq mi pc i = true) (hs : ∀ go ca, xm_step mi go ca d pc ls st h i = xm_after mi pc go ls' rest (ca mj vs h')) (hd : 1 ≤ d) (hv : (xm_slots vs).length ≤ xm_maxL mj ∧ xm_maxL mj ≤ 14) : xT d mi pc ls st h Q ↔ xTC (d - 1) mj vs h' (xAf d mi pc ls' rest Q) := by
  obtain ⟨d', rfl⟩ : ∃ d', d = d' + 1 := ⟨d - 1, by omega⟩
  rw [xT_pos]
  simp only [xm_run_q hq, hs, Nat.add_sub_cancel, if_pos hv]
  constructor
  · rintro ⟨n, r, h1, h2⟩
    cases hc : xm_run n d' mj 0 (xm_locals vs (xm_maxL mj)) [] h' with
    | none => rw [hc] at h1; cases h1
    | some q =>
      rw [hc] at h1
      refine ⟨n, q, hc, ?_⟩
      obtain ⟨hh, oq⟩ := q
      unfold xm_after at h1
      unfold xAf
      cases oq with
      | returned v => exact ⟨n, r, h1, h2⟩
      | threw ex =>
        dsimp only at h1 ⊢
        split at h1
        · rename_i t ht
          rw [ht]
          dsimp only
          split at h1
          · rename_i k hk
            split at h1
            · rename_i hz; rw [hk]; simp only [if_pos hz]; exact ⟨n, r, h1, h2⟩
            · cases h1
          · rename_i k hk
            split at h1
            · rename_i hz; rw [hk]; simp only [if_pos hz]; exact ⟨n, r, h1, h2⟩
            · cases h1
          · cases h1
        · cases h1
  · rintro ⟨n, ⟨hh, oq⟩, hc, h2⟩
    unfold xAf at h2
    cases oq with
    | returned v =>
      obtain ⟨m, r, h3, h4⟩ := h2
      refine ⟨n + m, r, ?_, h4⟩
      rw [xm_mono hc (by omega)]
      exact xm_mono h3 (by omega)
    | threw ex =>
      dsimp only at h2
      split at h2
      · rename_i t ht
        split at h2
        · rename_i k hk
          split at h2
          · rename_i hz
            obtain ⟨m, r, h3, h4⟩ := h2
            refine ⟨n + m, r, ?_, h4⟩
            rw [xm_mono hc (by omega)]
            unfold xm_after
            dsimp only
            rw [ht]; dsimp only; rw [hk]; simp only [if_pos hz]
            exact xm_mono h3 (by omega)
          · exact h2.elim
        · rename_i k hk
          split at h2
          · rename_i hz
            obtain ⟨m, r, h3, h4⟩ := h2
            refine ⟨n + m, r, ?_, h4⟩
            rw [xm_mono hc (by omega)]
            unfold xm_after
            dsimp only
            rw [ht]; dsimp only; rw [hk]; simp only [if_pos hz]
            exact xm_mono h3 (by omega)
          · exact h2.elim
        · exact h2.elim
      · exact h2.elim
end XT
