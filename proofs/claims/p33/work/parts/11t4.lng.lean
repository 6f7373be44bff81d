/-! long numbers -/
def nL (n : Nat) : Int64 := Int64.ofNat n
theorem nL_toInt {n : Nat} (h : n < 9223372036854775808) : (nL n).toInt = n := Int64.toInt_ofNat_of_lt h
theorem nL_addL (a b : Nat) : nL a + nL b = nL (a + b) := (Int64.ofNat_add a b).symm
theorem nL_mulL (a b : Nat) : nL a * nL b = nL (a * b) := (Int64.ofNat_mul a b).symm
theorem nI_L {n : Nat} (h : n < 2147483648) : (nI n).toInt64 = nL n := by
  apply Int64.toInt_inj.mp
  rw [Int32.toInt_toInt64, nI_toInt (by omega), nL_toInt (by omega)]
theorem nL_eqJ {a b : Nat} (ha : a < 9223372036854775808) (hb : b < 9223372036854775808) : (nL a = nL b) = (a = b) := by
  refine propext ⟨fun h => ?_, fun h => by rw [h]⟩
  have h1 := nL_toInt ha
  rw [h, nL_toInt hb] at h1; omega
theorem jl_0 : (0 : Int64) = nL 0 := rfl
theorem jl_1 : (1 : Int64) = nL 1 := rfl
theorem jl_63 : (63 : Int64) = nL 63 := rfl
theorem lgc0 (x y : Int64) : (lg_cmp x y = nI 0) = (x = y) := by
  refine propext ⟨fun h => ?_, fun h => ?_⟩
  · unfold lg_cmp at h
    split at h
    · exact absurd h (by decide)
    · split at h
      · assumption
      · exact absurd h (by decide)
  · subst h
    unfold lg_cmp
    rw [if_neg (by rw [gt_iff_lt, Int64.lt_iff_toInt_lt]; omega), if_pos rfl]; rfl
theorem lgcz {a : Nat} (h : a < 9223372036854775808) : (lg_cmp (nL a) (nL 0) ≤ nI 0) = (a = 0) := by
  have h0 := nL_toInt h
  have h1 : (nL 0).toInt = 0 := by decide
  refine propext ⟨fun hh => ?_, fun hh => ?_⟩
  · unfold lg_cmp at hh
    split at hh
    · exact absurd hh (by decide)
    · next h2 =>
      rw [gt_iff_lt, Int64.lt_iff_toInt_lt] at h2; omega
  · subst hh
    decide
theorem nL_63 {s : Nat} (h : s < 64) : nL s &&& nL 63 = nL s := (by decide +kernel : ∀ s, s < 64 → nL s &&& nL 63 = nL s) s h
theorem nL_sh1 {s : Nat} (h : s < 64) : nL 1 <<< nL s = nL (2 ^ s) := (by decide +kernel : ∀ s, s < 64 → nL 1 <<< nL s = nL (2 ^ s)) s h
theorem nL_smod {s : Nat} (h : s < 64) : ((nL s).toBitVec.smod 64).toNat = s := (by decide +kernel : ∀ s, s < 64 → ((nL s).toBitVec.smod 64).toNat = s) s h
theorem nL_bv (n : Nat) : (nL n).toBitVec = BitVec.ofNat 64 n := rfl
theorem nL_orL (a b : Nat) : nL a ||| nL b = nL (a ||| b) := by
  apply Int64.toBitVec_inj.mp
  rw [Int64.toBitVec_or, nL_bv, nL_bv, nL_bv]
  apply BitVec.eq_of_getLsbD_eq
  intro i hi
  simp [BitVec.getLsbD_or, BitVec.getLsbD_ofNat, hi]
theorem nL_andL (a b : Nat) : nL a &&& nL b = nL (a &&& b) := by
  apply Int64.toBitVec_inj.mp
  rw [Int64.toBitVec_and, nL_bv, nL_bv, nL_bv]
  apply BitVec.eq_of_getLsbD_eq
  intro i hi
  simp [BitVec.getLsbD_and, BitVec.getLsbD_ofNat, hi]
theorem nL_shrL {m s : Nat} (hm : m < 9223372036854775808) (h : s < 64) : nL m >>> nL s = nL (m >>> s) := by
  apply Int64.toBitVec_inj.mp
  rw [Int64.toBitVec_shiftRight]
  show (nL m).toBitVec.sshiftRight ((nL s).toBitVec.smod 64).toNat = _
  rw [nL_smod h, BitVec.sshiftRight_eq_of_msb_false, nL_bv, nL_bv]
  · apply BitVec.eq_of_toNat_eq
    rw [BitVec.toNat_ushiftRight, BitVec.toNat_ofNat, BitVec.toNat_ofNat, Nat.mod_eq_of_lt (by omega), Nat.mod_eq_of_lt]
    rw [Nat.shiftRight_eq_div_pow]
    exact Nat.lt_of_le_of_lt (Nat.div_le_self _ _) (by omega)
  · rw [BitVec.msb_eq_decide, nL_bv, BitVec.toNat_ofNat, Nat.mod_eq_of_lt (by omega)]
    exact decide_eq_false (by omega)
theorem and1_bit (m s : Nat) : (m >>> s) &&& 1 = if m.testBit s = true then 1 else 0 := by
  rw [Nat.testBit_eq_decide_div_mod_eq, Nat.shiftRight_eq_div_pow, Nat.and_one_is_mod]
  by_cases h : m / 2 ^ s % 2 = 1
  · rw [h]; simp
  · rw [if_neg (by simpa using h)]; omega
/-- a set has a sign -/
theorem nL_has {m s : Nat} (hm : m < 9223372036854775808) (h : s < 64) : (nL m >>> (nL s &&& nL 63)) &&& nL 1 = nL (if m.testBit s = true then 1 else 0) := by
  rw [nL_63 h, nL_shrL hm h, nL_andL, and1_bit]
theorem nL_b1 {s : Nat} (h : s < 64) : nL 1 <<< (nL s &&& nL 63) = nL (2 ^ s) := by rw [nL_63 h, nL_sh1 h]
theorem nL_not (x : Int64) : x ^^^ (-1 : Int64) = ~~~x := by
  apply Int64.toBitVec_inj.mp
  rw [Int64.toBitVec_xor, Int64.toBitVec_not]
  show x.toBitVec ^^^ BitVec.allOnes 64 = _
  exact BitVec.xor_allOnes
/-- no sign of the one but of the other -/
theorem nL_sub0 {a b : Nat} (ha : a < 9223372036854775808) : (nL a &&& ~~~ nL b = nL 0) = (∀ s, a.testBit s = true → b.testBit s = true) := by
  refine propext ⟨fun h s hs => ?_, fun h => ?_⟩
  · have hs64 : s < 64 := by
      rcases Nat.lt_or_ge s 64 with h64 | h64
      · exact h64
      · rw [Nat.testBit_lt_two_pow (Nat.lt_of_lt_of_le ha (Nat.le_trans (by decide : 9223372036854775808 ≤ 2 ^ 64) (Nat.pow_le_pow_right (by omega) h64)))] at hs
        exact absurd hs (by simp)
    have h1 := congrArg (fun x : Int64 => x.toBitVec.getLsbD s) h
    simp only [Int64.toBitVec_and, Int64.toBitVec_not, nL_bv, BitVec.getLsbD_and, BitVec.getLsbD_not, BitVec.getLsbD_ofNat, hs64, hs, decide_true, Bool.true_and, Nat.zero_testBit, Bool.and_false, Bool.and_true, Bool.not_eq_eq_eq_not, Bool.not_false] at h1
    simpa using h1
  · apply Int64.toBitVec_inj.mp
    apply BitVec.eq_of_getLsbD_eq
    intro i hi
    have h2 := h i
    simp only [Int64.toBitVec_and, Int64.toBitVec_not, nL_bv, BitVec.getLsbD_and, BitVec.getLsbD_not, BitVec.getLsbD_ofNat, hi, decide_true, Bool.true_and, Nat.zero_testBit]
    cases e : a.testBit i
    · simp
    · rw [h2 e]; simp
