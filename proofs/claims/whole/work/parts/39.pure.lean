theorem pure_whole (xs : List Int32) (h : xs.length ≤ 3584) : ∃ (fu : Nat) (w' : XW), U_L_law fu [.ref 0] [.inr (2, xs)] = some (some (.int 1), w') ∧ w'.length ≤ 600001 ∧ gs w' ≤ 7302250 + xs.length := by
  sorry
