def o_word (A : St) (x : Int32) : Res := if (ix x 1000 && !ix x 1) = false then (1, nI 0, A) else if A 0 0 0 = 0 ∨ A 2 0 0 = 20 then (2, nI 0, A) else (0, nI (A 2 0 0), stU (stU (stU (stU (stF A 4 (A 2 0 0) (A 0 0 0) (A 1 0)) 3 0 (A 2 0 0) (A 0 0 0)) 5 0 (A 2 0 0) x.toNatClampNeg) 0 0 0 0) 2 0 0 (A 2 0 0 + 1))
theorem ix1 {j : Nat} (hj : j < 2147483648) {N : Nat} (hN : N < 2147483648) : ix (nI j) N = decide (j < N) := by
  by_cases h : j < N
  · rw [ix_t h hN]; simp [h]
  · rw [ix_f (by omega) hj]; simp [h]
def o_mark (A : St) (D t : Int32) (b : Nat) : Res := if (ix D (A 11 0 0) && ix t 3) = false then (1, nI 0, A) else (0, nI (A 15 D.toNatClampNeg t.toNatClampNeg), stU A 15 D.toNatClampNeg t.toNatClampNeg b)
def o_group (A : St) (g its val sp : Int32) : Res := if (ix g 4 && ix sp 3) = false then (1, nI 0, A) else if (ix its 1000 && ix val 1000) = false then (2, nI 0, A) else (0, nI (A 18 0 g.toNatClampNeg), stU (stU (stU A 18 0 g.toNatClampNeg its.toNatClampNeg) 19 0 g.toNatClampNeg val.toNatClampNeg) 20 0 g.toNatClampNeg sp.toNatClampNeg)
