theorem law_one (xs : Nat → Int32) (L : Nat) (hL : L ≤ 260) : f_law xs L aw_s0 aw_d0 = some 1 := law_all xs L hL
