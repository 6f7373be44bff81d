/-- NONE -/
def NO : Int32 := -1
theorem nno : -nI 1 = NO := rfl
theorem NO_i : NO.toInt = -1 := by decide
theorem NO_n {a : Nat} (h : a < 2147483648) : (nI a = NO) = False := nI_neM h
theorem NO_n2 {a : Nat} (h : a < 2147483648) : (NO = nI a) = False := nI_neM' h
theorem NO_lt {a : Nat} (h : a < 2147483648) : (nI a < NO) = False := eq_false (by rw [Int32.lt_iff_toInt_lt, NO_i, nI_toInt (by omega)]; omega)
theorem NO_le {a : Nat} (h : a < 2147483648) : (nI a ≤ NO) = False := eq_false (by rw [Int32.le_iff_toInt_le, NO_i, nI_toInt (by omega)]; omega)
theorem NO_lt2 {a : Nat} (h : a < 2147483648) : (NO < nI a) = True := eq_true (by rw [Int32.lt_iff_toInt_lt, NO_i, nI_toInt (by omega)]; omega)
theorem NO_le2 {a : Nat} (h : a < 2147483648) : (NO ≤ nI a) = True := eq_true (by rw [Int32.le_iff_toInt_le, NO_i, nI_toInt (by omega)]; omega)

/-- a base as it is kept: 0 is NONE -/
def bas (x : Int32) : Nat := (x + 1).toNatClampNeg
def newD (A : St) (k b : Nat) : St := stU (stF (stF (stF (stU (stU A 12 0 (A 11 0 0) k) 13 0 (A 11 0 0) b) 14 (A 11 0 0) 47 (fun j => j)) 15 (A 11 0 0) 3 (fun _ => 1)) 16 (A 11 0 0) 50 (fun j => j)) 11 0 0 (A 11 0 0 + 1)
def o_design (A : St) (k b : Int32) : Res := if (ix k 2 && (decide (b = NO) || ix b 3)) = false then (1, nI 0, A) else if A 11 0 0 = 5 then (2, nI 0, A) else (0, nI (A 11 0 0), newD A k.toNatClampNeg (bas b))
