/-! the model: errors -/
def o_errors (A : St) (D far : Int32) : Res := if ix D (A 11 0 0) = false then o_bad A 1 else if ix far 5 = false then o_bad A 2 else (0, nI (errS A D.toNatClampNeg far.toNatClampNeg), A)
