/-! rows of least ways -/
def Row (c : Nat) (d : Dt) (lo hi : Nat → Nat) (k m : Nat) : Prop := ∀ j, j ≤ m → d.1 c j = nI (if j < k then lo j else hi j)
theorem Row.lo {c : Nat} {d : Dt} {lo hi : Nat → Nat} {k m j : Nat} (h : Row c d lo hi k m) (hj : j < k) (hm : j ≤ m) : d.1 c j = nI (lo j) := by rw [h j hm, if_pos hj]
theorem Row.hi {c : Nat} {d : Dt} {lo hi : Nat → Nat} {k m j : Nat} (h : Row c d lo hi k m) (hj : k ≤ j) (hm : j ≤ m) : d.1 c j = nI (hi j) := by rw [h j hm, if_neg (by omega)]
theorem Row.st {c : Nat} {d : Dt} {lo hi : Nat → Nat} {k m v : Nat} (h : Row c d lo hi k m) (hv : v = lo k) : Row c (aw_sI d c k (nI v)) lo hi (k + 1) m := by
  intro j hj
  by_cases e : j = k
  · subst e; rw [aw_sI_e rfl rfl, if_pos (by omega), hv]
  · rw [aw_sI_n (by omega), h j hj]
    by_cases e2 : j < k
    · rw [if_pos e2, if_pos (by omega)]
    · rw [if_neg e2, if_neg (by omega)]
theorem Row.full {c : Nat} {d : Dt} {lo hi hi2 : Nat → Nat} {k m : Nat} (h : Row c d lo hi k m) (hk : m < k) : Row c d hi2 lo 0 m := by
  intro j hj
  rw [h j hj, if_pos (by omega), if_neg (by omega)]
theorem nI_mod10 {n : Nat} (h : n < 2147483648) : nI n - nI n / nI 10 * nI 10 = nI (n % 10) := by
  rw [nI_divI h (by omega), nI_mulI, nI_subI (by omega)]
  congr 1; omega
theorem dv10 (n i : Nat) : n / 10 ^ i / 10 = n / 10 ^ (i + 1) := by rw [Nat.div_div_eq_div_mul, Nat.pow_succ]
