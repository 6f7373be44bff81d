/-! the model: signs in use, reading -/
theorem jl_not (x : Int64) : x ^^^ (-nL 1) = ~~~x := nL_not x
theorem nL_subB {a b : Nat} (ha : a < 9223372036854775808) : (nL a &&& ~~~ nL b = nL 0) = (sub a b = true) := by
  rw [nL_sub0 ha]
  exact propext sub_iff.symm
theorem bit1 {m s : Nat} : ((if m.testBit s = true then 1 else 0) = 1) = (m.testBit s = true) := by
  by_cases h : m.testBit s = true
  · simp [h]
  · simp [h]
theorem bitlt (m s : Nat) : (if m.testBit s = true then 1 else 0) < 9223372036854775808 := by split <;> omega
