/-! THE START: what holds between the calls holds before the first -/
theorem a00_0 (xs : Nat → Int32) (c : Nat) (h1 : 0 < c) (h2 : c < 35) : a00 xs c = fun _ => 0 := by
  funext z; unfold a00; exact if_neg (by omega)
theorem f00_0 (i k : Nat) (h : ¬ (((i = 2 ∨ i = 5) ∧ k < 3) ∨ (i = 21 ∧ 1 ≤ k ∧ k ≤ 3))) : f00 i k = 0 := if_neg h
theorem f00_1 (i k : Nat) (h : ((i = 2 ∨ i = 5) ∧ k < 3) ∨ (i = 21 ∧ 1 ≤ k ∧ k ≤ 3)) : f00 i k = 1 := if_pos h
theorem c_IV (L : Nat) (xs : Nat → Int32) (Lo : Nat → Nat → Int64) : IV L 0 f00 (a00 xs) (L, Lo, 34, 13220) := by
  refine ⟨⟨rfl, by show 6 * ((34 : Nat) : Int) ≤ 600 + 0; omega, by show ((13220 : Nat) : Int) ≤ 18000 + 0; omega, fun j => ?_⟩, ?_, ?_, ?_⟩
  · have e : a00 xs 0 j = (xs j.toNat).toInt := by unfold a00; exact if_pos (Or.inl rfl)
    rw [e]
    have h1 := Int32.le_toInt (xs j.toNat)
    have h2 := Int32.toInt_lt (xs j.toNat)
    omega
  · unfold FI
    rw [f00_1 2 0 (by omega), f00_1 2 1 (by omega), f00_1 2 2 (by omega), f00_0 2 3 (by omega), f00_1 21 1 (by omega), f00_1 21 2 (by omega), f00_1 21 3 (by omega), f00_0 21 4 (by omega)]
    refine ⟨by omega, by omega, by omega, by omega, by omega, fun j j0 j1 => ?_, fun k p y x k0 k1 => ?_⟩ <;> omega
  · unfold BD
    rw [a00_0 xs 4 (by omega) (by omega), a00_0 xs 7 (by omega) (by omega), a00_0 xs 23 (by omega) (by omega), a00_0 xs 26 (by omega) (by omega), a00_0 xs 13 (by omega) (by omega), a00_0 xs 27 (by omega) (by omega), a00_0 xs 9 (by omega) (by omega), a00_0 xs 11 (by omega) (by omega)]
    refine ⟨?_, ?_, ?_, ?_, ?_, ?_, ?_, ?_⟩ <;> intro _ <;> constructor <;> (dsimp only; omega)
  · unfold FL
    rw [f00_0 21 7 (by omega), f00_0 8 0 (by omega), a00_0 xs 24 (by omega) (by omega), a00_0 xs 9 (by omega) (by omega)]
    exact ⟨rfl, by decide, by decide, rfl⟩
/-- THE PURE THEOREM: the abstract machine runs the law on every script, and it answers 1 -/
theorem xp_law (L : Nat) (xs : Nat → Int32) (hL : L ≤ 3072) : ∃ n hf, xm_run n 11 0 0 (xm_locals [.ref 0] 7) [] (xp_h0 L xs) = some (hf, .returned (some (.int 1))) := by
  have h : xT 11 0 0 (xm_locals [.ref 0] 7) [] (xp_h0 L xs) (fun r => r.2 = .returned (some (.int (xI 1)))) := by
    refine c_run L xs _ fun S F A Lo hS hF hA => ?_
    rw [hS, hF, hA]
    exact l_law hL (fun _ => rfl) 600 f00 (a00 xs) (L, Lo, 34, 13220) 0 .null .null (c_IV L xs Lo) (by omega) (by omega) (by omega)
  obtain ⟨n, ⟨hf, o⟩, h1, h2⟩ := h
  exact ⟨n, hf, h1.trans (by rw [show o = .returned (some (.int (xI 1))) from h2]; rfl)⟩
