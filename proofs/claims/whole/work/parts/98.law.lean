/-- THE PURE THEOREM: the abstract machine runs the law on every script, and it answers 1 -/
theorem xp_law (L : Nat) (xs : Nat → Int32) (hL : L ≤ 3072) : ∃ n hf, xm_run n 11 0 0 (xm_locals [.ref 0] 7) [] (xp_h0 L xs) = some (hf, .returned (some (.int 1))) := by
  sorry
