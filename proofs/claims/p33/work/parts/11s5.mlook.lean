/-! the model's calls that only look -/
theorem ng_f {j : Nat} (hj : j < 2147483648) : (nI j < nI 0) = False := eq_false (by rw [nI_ltJ hj (by omega)]; omega)
def o_bad (A : St) (t : Nat) : Res := (t, nI 0, A)
/-- the place of a list -/
def atI (l : List Nat) (j : Nat) : Int32 := if j < l.length then nI (l.getD j 0) else NO
def o_spelled (A : St) (D w p : Int32) : Res := if ix D (A 11 0 0) = true ∧ ix w (A 2 0 0) = true ∧ ¬ p < nI 0 then (0, atI (own A D.toNatClampNeg w.toNatClampNeg) p.toNatClampNeg, A) else o_bad A 1
def o_spoken (A : St) (x w p : Int32) : Res := if (decide (x = NO) || ix x 3) = true ∧ ix w (A 2 0 0) = true ∧ ¬ p < nI 0 then (0, (if p.toNatClampNeg < A 3 0 w.toNatClampNeg then nI (spk A (if x = NO then 0 else x.toNatClampNeg + 1) w.toNatClampNeg p.toNatClampNeg) else NO), A) else o_bad A 1
