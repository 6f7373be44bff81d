def o_change (A : St) (x p fr to : Int32) (b : Nat) : Res := if (ix x 3 && ix p 4) = false then (1, nI 0, A) else if (ix fr (vals p.toNatClampNeg) && ix to (vals p.toNatClampNeg)) = false then (2, nI 0, A) else if A 6 0 x.toNatClampNeg = 6 then (3, nI 0, A) else (0, nI (A 6 0 x.toNatClampNeg + 1), stU (stU (stU (stU (stU A 7 x.toNatClampNeg (A 6 0 x.toNatClampNeg) p.toNatClampNeg) 8 x.toNatClampNeg (A 6 0 x.toNatClampNeg) fr.toNatClampNeg) 9 x.toNatClampNeg (A 6 0 x.toNatClampNeg) to.toNatClampNeg) 10 x.toNatClampNeg (A 6 0 x.toNatClampNeg) b) 6 0 x.toNatClampNeg (A 6 0 x.toNatClampNeg + 1))
def o_key (A : St) (D s to : Int32) : Res := if (ix D (A 11 0 0) && (ix s 50 && ix to 50)) = false then (1, nI 0, A) else (0, nI (A 16 D.toNatClampNeg s.toNatClampNeg), stU (stF A 16 D.toNatClampNeg 50 (fun j => if A 16 D.toNatClampNeg j = to.toNatClampNeg then A 16 D.toNatClampNeg s.toNatClampNeg else A 16 D.toNatClampNeg j)) 16 D.toNatClampNeg s.toNatClampNeg to.toNatClampNeg)
/-- all digits are strokes -/
def dok : Nat → Nat → Bool
  | 0, _ => true
  | f + 1, n => if n = 0 then true else (decide (1 ≤ n % 10) && decide (n % 10 ≤ 4)) && dok f (n / 10)
def shB (x : Int32) : Bool := (ix x 4445 && !ix x 1) && dok 4 x.toNatClampNeg
def o_shape (A : St) (s x : Int32) : Res := if ix s 50 = false then (1, nI 0, A) else if shB x = false then (2, nI 0, A) else (0, nI (A 17 0 s.toNatClampNeg), stU A 17 0 s.toNatClampNeg x.toNatClampNeg)
