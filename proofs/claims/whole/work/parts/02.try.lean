theorem tr_1 (x : Nat) : x + 0 = x := by
  trace_state
  exact rfl
theorem i_vc : Claimed_1_1 ∧ Claimed_1_2 := sorry
