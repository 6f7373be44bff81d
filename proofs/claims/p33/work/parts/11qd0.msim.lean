/-! the model's plain calls -/
abbrev Res : Type := Nat × Int32 × St
def o_syllable (A : St) (x : Int32) : Res := if ix x 972 = false then (1, nI 0, A) else if A 0 0 0 = 4 then (2, nI 0, A) else (0, nI (A 0 0 0 + 1), stU (stU A 1 0 (A 0 0 0) x.toNatClampNeg) 0 0 0 (A 0 0 0 + 1))
