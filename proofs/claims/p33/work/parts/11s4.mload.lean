/-! the model: load, fit, lost -/
theorem ahead_self (A : St) (D w : Nat) : ahead A D w w = false := by unfold ahead; simp
