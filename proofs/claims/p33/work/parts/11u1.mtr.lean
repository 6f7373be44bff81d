/-! the model: the least cost, travel, exchange -/
def usd (A : St) (D k : Nat) : Nat := (usL (allS A D)).getD k 0
def lcA (A : St) (D : Nat) : Nat := lcS A D (usd A D) (usL (allS A D)).length
def o_leastCost (A : St) (D : Int32) : Res := if ix D (A 11 0 0) = false then o_bad A 1 else if 10 < (usL (allS A D.toNatClampNeg)).length then o_bad A 2 else (0, nI (lcA A D.toNatClampNeg), A)
def adf (a b : Nat) : Nat := if b ≤ a then a - b else b - a
def travK (A : St) (D : Nat) (K : Nat → Nat) : Nat := sumR (fun w => sumR (fun k => A 5 0 w * adf (K ((own A D w).getD (k + 1) 0)) (K ((own A D w).getD k 0))) ((own A D w).length - 1)) (A 2 0 0)
theorem nI_adf {a b : Nat} (ha : a < 2147483648) (hb : b < 2147483648) : (if nI 0 ≤ nI a - nI b then nI a - nI b else -(nI a - nI b)) = nI (adf a b) := by
  unfold adf
  by_cases h : b ≤ a
  · rw [if_pos h, nI_subI h]
    simp only [nI_leJ (show 0 < 2147483648 by omega) (show a - b < 2147483648 by omega), Nat.zero_le, if_true]
  · rw [if_neg h]
    have e : nI a - nI b = -(nI (b - a)) := by rw [← nI_subI (show a ≤ b by omega), Int32.neg_sub]
    have hlt : ¬ nI 0 ≤ nI a - nI b := by
      rw [e, Int32.le_iff_toInt_le, Int32.toInt_neg, nI_toInt (by omega), nI_toInt (by omega)]
      have : ((-((b - a : Nat) : Int)).bmod (2 ^ 32)) = -((b - a : Nat) : Int) := by apply Int.bmod_eq_of_le <;> omega
      rw [this]; omega
    rw [if_neg hlt, e, Int32.neg_neg]
