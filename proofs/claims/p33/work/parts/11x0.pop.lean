/-! how many bits a long number has -/
theorem and256 {x a y b : Nat} (ha : a < 256) (hb : b < 256) : (256 * x + a) &&& (256 * y + b) = 256 * (x &&& y) + (a &&& b) := by
  have hab : a &&& b < 256 := Nat.lt_of_le_of_lt Nat.and_le_left ha
  apply Nat.eq_of_testBit_eq
  intro i
  rw [Nat.testBit_and, show 256 = 2 ^ 8 from rfl, Nat.testBit_two_pow_mul_add _ ha, Nat.testBit_two_pow_mul_add _ hb, Nat.testBit_two_pow_mul_add _ hab]
  split <;> rw [Nat.testBit_and]
def rep (b : Nat) : Nat → Nat
  | 0 => 0
  | n + 1 => 256 * rep b n + b
def pS1 (n m : Nat) : Nat := m - ((m / 2) &&& rep 85 n)
def pS2 (n x : Nat) : Nat := (x &&& rep 51 n) + ((x / 4) &&& rep 51 n)
def pS3 (n y : Nat) : Nat := (y + y / 16) &&& rep 15 n
def f1 (c : Nat) : Nat := c - ((c / 2) &&& 85)
def f2 (c : Nat) : Nat := (c &&& 51) + ((c / 4) &&& 51)
def f3 (c : Nat) : Nat := (c + c / 16) % 16
theorem f_all : ∀ c, c < 256 → f1 c < 256 ∧ f2 (f1 c) ≤ 68 ∧ f2 (f1 c) % 16 ≤ 4 ∧ f3 (f2 (f1 c)) = sumR (fun j => if c.testBit j = true then 1 else 0) 8 ∧ f3 (f2 (f1 c)) ≤ 8 := by decide +kernel
theorem e1 : ∀ c, c < 256 → ∀ e, e < 2 → (128 * e + c / 2) &&& 85 = (c / 2) &&& 85 := by decide +kernel
theorem e2 : ∀ c, c < 256 → ∀ e, e < 4 → (64 * e + c / 4) &&& 51 = (c / 4) &&& 51 := by decide +kernel
theorem s1_s {n q c : Nat} (hc : c < 256) : pS1 (n + 1) (256 * q + c) = 256 * pS1 n q + f1 c := by
  unfold pS1 f1
  have h : (256 * q + c) / 2 = 256 * (q / 2) + (128 * (q % 2) + c / 2) := by omega
  rw [h, show rep 85 (n + 1) = 256 * rep 85 n + 85 from rfl, and256 (by omega) (by omega), e1 c hc _ (by omega)]
  have h1 : (q / 2) &&& rep 85 n ≤ q / 2 := Nat.and_le_left
  have h2 : (c / 2) &&& 85 ≤ c / 2 := Nat.and_le_left
  omega
theorem s2_s {n x y : Nat} (hy : y < 256) : pS2 (n + 1) (256 * x + y) = 256 * pS2 n x + f2 y := by
  unfold pS2 f2
  have h : (256 * x + y) / 4 = 256 * (x / 4) + (64 * (x % 4) + y / 4) := by omega
  rw [h, show rep 51 (n + 1) = 256 * rep 51 n + 51 from rfl, and256 hy (by omega), and256 (by omega) (by omega), e2 y hy _ (by omega)]
  omega
theorem s3_s {n x y : Nat} (hy : y ≤ 68) (hx : x % 16 ≤ 4) : pS3 (n + 1) (256 * x + y) = 256 * pS3 n x + f3 y := by
  unfold pS3 f3
  have h : 256 * x + y + (256 * x + y) / 16 = 256 * (x + x / 16) + (16 * (x % 16) + y + y / 16) := by omega
  rw [h, show rep 15 (n + 1) = 256 * rep 15 n + 15 from rfl, and256 (by omega) (by omega)]
  have h15 : (16 * (x % 16) + y + y / 16) &&& 15 = (16 * (x % 16) + y + y / 16) % 16 := Nat.and_two_pow_sub_one_eq_mod _ 4
  rw [h15]
  omega
def pT : Nat → Nat → Nat
  | 0, _ => 0
  | n + 1, m => 256 * pT n (m / 256) + f3 (f2 (f1 (m % 256)))
theorem pA (n : Nat) : ∀ m, pS3 n (pS2 n (pS1 n m)) = pT n m ∧ pS2 n (pS1 n m) % 16 ≤ 4 := by
  induction n with
  | zero =>
    intro m
    have h0 : ∀ x, x &&& rep 51 0 = 0 := fun x => Nat.and_zero x
    refine ⟨Nat.and_zero _, ?_⟩
    unfold pS2; rw [h0, h0]; omega
  | succ n ih =>
    intro m
    obtain ⟨a1, a2, a3, a4, a5⟩ := f_all (m % 256) (Nat.mod_lt _ (by omega))
    have hm : m = 256 * (m / 256) + m % 256 := by omega
    have h1 : pS1 (n + 1) m = 256 * pS1 n (m / 256) + f1 (m % 256) := by
      conv => lhs; rw [hm]
      exact s1_s (Nat.mod_lt _ (by omega))
    have h2 : pS2 (n + 1) (pS1 (n + 1) m) = 256 * pS2 n (pS1 n (m / 256)) + f2 (f1 (m % 256)) := by rw [h1, s2_s a1]
    rw [h2]
    refine ⟨?_, by omega⟩
    rw [s3_s a2 (ih (m / 256)).2, (ih (m / 256)).1]
    rfl
/-- the sum of eight bytes -/
theorem div_of {u c B r : Nat} (h : u = c * B + r) (hr : r < c) : u / c = B := by
  rw [h, Nat.mul_add_div (by omega), Nat.div_eq_of_lt hr, Nat.add_zero]
theorem mod_of {u c B r : Nat} (h : u = c * B + r) (hr : r < c) : u % c = r := by
  rw [h, Nat.mul_add_mod, Nat.mod_eq_of_lt hr]
theorem sum8 {p0 p1 p2 p3 p4 p5 p6 p7 t : Nat} (h0 : p0 ≤ 8) (h1 : p1 ≤ 8) (h2 : p2 ≤ 8) (h3 : p3 ≤ 8) (h4 : p4 ≤ 8) (h5 : p5 ≤ 8) (h6 : p6 ≤ 8) (h7 : p7 ≤ 8) (ht : t = 256 * (256 * (256 * (256 * (256 * (256 * (256 * (256 * 0 + p7) + p6) + p5) + p4) + p3) + p2) + p1) + p0) :
    (t + t / 256 + (t + t / 256) / 65536 + (t + t / 256 + (t + t / 256) / 65536) / 4294967296) % 128 = p0 + p1 + p2 + p3 + p4 + p5 + p6 + p7 ∧ t < 1152921504606846976 := by
  refine ⟨?_, by omega⟩
  have e1 : t / 256 = 256 * (256 * (256 * (256 * (256 * (256 * (256 * 0 + p7) + p6) + p5) + p4) + p3) + p2) + p1 := div_of ht (by omega)
  rw [e1]
  clear e1
  have hu : t + (256 * (256 * (256 * (256 * (256 * (256 * (256 * 0 + p7) + p6) + p5) + p4) + p3) + p2) + p1) = 65536 * ((p2 + p3) + 256 * (p3 + p4) + 65536 * (p4 + p5) + 16777216 * (p5 + p6) + 4294967296 * (p6 + p7) + 1099511627776 * p7) + ((p0 + p1) + 256 * (p1 + p2)) := by omega
  generalize t + (256 * (256 * (256 * (256 * (256 * (256 * (256 * 0 + p7) + p6) + p5) + p4) + p3) + p2) + p1) = u at hu ⊢
  clear ht
  rw [div_of hu (by omega)]
  have hv : u + ((p2 + p3) + 256 * (p3 + p4) + 65536 * (p4 + p5) + 16777216 * (p5 + p6) + 4294967296 * (p6 + p7) + 1099511627776 * p7) = 4294967296 * ((p4 + p5 + p6 + p7) + 256 * (p5 + p6 + p7) + 65536 * (p6 + p7) + 16777216 * p7) + ((p0 + p1 + p2 + p3) + 256 * (p1 + p2 + p3 + p4) + 65536 * (p2 + p3 + p4 + p5) + 16777216 * (p3 + p4 + p5 + p6)) := by omega
  generalize u + ((p2 + p3) + 256 * (p3 + p4) + 65536 * (p4 + p5) + 16777216 * (p5 + p6) + 4294967296 * (p6 + p7) + 1099511627776 * p7) = v at hv ⊢
  clear hu
  rw [div_of hv (by omega)]
  have hw : v + ((p4 + p5 + p6 + p7) + 256 * (p5 + p6 + p7) + 65536 * (p6 + p7) + 16777216 * p7) = 128 * (2 * (p1 + p2 + p3 + p4 + p5 + p6 + p7) + 512 * (p2 + p3 + p4 + p5 + p6 + p7) + 131072 * (p3 + p4 + p5 + p6 + p7) + 33554432 * (p4 + p5 + p6 + p7) + 8589934592 * (p5 + p6 + p7) + 2199023255552 * (p6 + p7) + 562949953421312 * p7) + (p0 + p1 + p2 + p3 + p4 + p5 + p6 + p7) := by omega
  exact mod_of hw (by omega)
theorem cb_ext {m : Nat} (hm : m < L50) : cb m = sumR (fun s => if m.testBit s = true then 1 else 0) 64 := by
  unfold cb
  exact (sum_tail (by omega) (fun k hk => by
    rw [if_neg]
    intro h
    have := lt50_bit hm h
    omega)).symm
theorem byte_bit {m i j : Nat} (hj : j < 8) : (m / 256 ^ i % 256).testBit j = m.testBit (8 * i + j) := by
  rw [show 256 = 2 ^ 8 from rfl, Nat.testBit_mod_two_pow, ← Nat.pow_mul, Nat.testBit_div_two_pow]
  simp [hj, Nat.add_comm]
theorem pop_eq {m : Nat} (hm : m < L50) : (pT 8 m + pT 8 m / 256 + (pT 8 m + pT 8 m / 256) / 65536 + (pT 8 m + pT 8 m / 256 + (pT 8 m + pT 8 m / 256) / 65536) / 4294967296) % 128 = cb m ∧ pT 8 m < 1152921504606846976 := by
  have hb : ∀ i, f3 (f2 (f1 (m / 256 ^ i % 256))) ≤ 8 ∧ f3 (f2 (f1 (m / 256 ^ i % 256))) = sumR (fun j => if m.testBit (8 * i + j) = true then 1 else 0) 8 := fun i => by
    obtain ⟨a1, a2, a3, a4, a5⟩ := f_all (m / 256 ^ i % 256) (Nat.mod_lt _ (by omega))
    refine ⟨a5, a4.trans (sumR_cg (fun j hj => by rw [byte_bit hj]))⟩
  have hd : ∀ k, m / 256 ^ k / 256 = m / 256 ^ (k + 1) := fun k => by rw [Nat.div_div_eq_div_mul, Nat.pow_succ]
  have ht : pT 8 m = 256 * (256 * (256 * (256 * (256 * (256 * (256 * (256 * 0 + f3 (f2 (f1 (m / 256 ^ 7 % 256)))) + f3 (f2 (f1 (m / 256 ^ 6 % 256)))) + f3 (f2 (f1 (m / 256 ^ 5 % 256)))) + f3 (f2 (f1 (m / 256 ^ 4 % 256)))) + f3 (f2 (f1 (m / 256 ^ 3 % 256)))) + f3 (f2 (f1 (m / 256 ^ 2 % 256)))) + f3 (f2 (f1 (m / 256 ^ 1 % 256)))) + f3 (f2 (f1 (m / 256 ^ 0 % 256))) := by
    have h0 : m = m / 256 ^ 0 := by simp
    conv => lhs; rw [h0]
    simp only [pT, hd]
  have h := sum8 (hb 0).1 (hb 1).1 (hb 2).1 (hb 3).1 (hb 4).1 (hb 5).1 (hb 6).1 (hb 7).1 ht
  refine ⟨?_, h.2⟩
  rw [h.1, cb_ext hm, show 64 = 8 * 8 from rfl, sumR_prod]
  simp only [(hb _).2]
  simp only [sumR, Nat.zero_add]
theorem shU {m k : Nat} (hm : m < 18446744073709551616) (hk : k < 64) : ((nL m).toUInt64 >>> (UInt64.ofNat k)).toInt64 = nL (m / 2 ^ k) := by
  apply Int64.toBitVec_inj.mp
  show ((nL m).toUInt64 >>> (UInt64.ofNat k)).toBitVec = _
  rw [UInt64.toBitVec_shiftRight]
  apply BitVec.eq_of_toNat_eq
  show ((BitVec.ofNat 64 m) >>> ((BitVec.ofNat 64 k) % 64#64).toNat).toNat = (BitVec.ofNat 64 (m / 2 ^ k)).toNat
  have hlt : m / 2 ^ k < 18446744073709551616 := Nat.lt_of_le_of_lt (Nat.div_le_self _ _) hm
  have hkk : ((BitVec.ofNat 64 k) % 64#64).toNat = k := by
    rw [BitVec.toNat_umod, BitVec.toNat_ofNat, BitVec.toNat_ofNat, Nat.mod_eq_of_lt (show k < 2 ^ 64 by omega)]
    exact Nat.mod_eq_of_lt hk
  rw [hkk, BitVec.toNat_ushiftRight, BitVec.toNat_ofNat, BitVec.toNat_ofNat, Nat.shiftRight_eq_div_pow]
  rw [show m % 2 ^ 64 = m from Nat.mod_eq_of_lt hm, show m / 2 ^ k % 2 ^ 64 = m / 2 ^ k from Nat.mod_eq_of_lt hlt]
theorem nL_subL {a b : Nat} (h : b ≤ a) : nL a - nL b = nL (a - b) := by
  have e : nL a = nL (a - b) + nL b := by rw [nL_addL]; congr 1; omega
  rw [e, Int64.add_sub_cancel]
theorem nL_toI (a : Nat) : (nL a).toInt32 &&& nI 127 = nI (a % 128) := by
  apply Int32.toBitVec_inj.mp
  apply BitVec.eq_of_getLsbD_eq
  intro i hi
  have h127 : ∀ i, i < 32 → (127 : Nat).testBit i = decide (i < 7) := by decide
  rw [Int32.toBitVec_and, BitVec.getLsbD_and]
  show (((nL a).toBitVec.signExtend 32).getLsbD i && (BitVec.ofNat 32 127).getLsbD i) = (BitVec.ofNat 32 (a % 128)).getLsbD i
  rw [BitVec.getLsbD_signExtend, BitVec.getLsbD_ofNat, BitVec.getLsbD_ofNat, h127 i hi, show 128 = 2 ^ 7 from rfl, Nat.testBit_mod_two_pow, if_pos (by omega), nL_bv, BitVec.getLsbD_ofNat]
  simp [hi, show i < 64 by omega]
  cases decide (i < 7) <;> simp
theorem k1 : ((1 : Int32).toInt64.toUInt64 &&& Int64.toUInt64 63) = UInt64.ofNat 1 := by decide
theorem k2 : ((2 : Int32).toInt64.toUInt64 &&& Int64.toUInt64 63) = UInt64.ofNat 2 := by decide
theorem k4 : ((4 : Int32).toInt64.toUInt64 &&& Int64.toUInt64 63) = UInt64.ofNat 4 := by decide
theorem k8 : ((8 : Int32).toInt64.toUInt64 &&& Int64.toUInt64 63) = UInt64.ofNat 8 := by decide
theorem k16 : ((16 : Int32).toInt64.toUInt64 &&& Int64.toUInt64 63) = UInt64.ofNat 16 := by decide
theorem k32 : ((32 : Int32).toInt64.toUInt64 &&& Int64.toUInt64 63) = UInt64.ofNat 32 := by decide
theorem C_bitCount {σ : Sg} {d : Dt} {m : Nat} (hm : m < L50) : f_J13_bitCount_95d88 σ (nL m) d = some (nI (cb m), d) := by
  have hL : L50 = 1125899906842624 := rfl
  rw [hL] at hm
  have r1 : rep 85 8 = 6148914691236517205 := by decide
  have r2 : rep 51 8 = 3689348814741910323 := by decide
  have r3 : rep 15 8 = 1085102592571150095 := by decide
  have c1 : (6148914691236517205 : Int64) = nL (rep 85 8) := by rw [r1]; rfl
  have c2 : (3689348814741910323 : Int64) = nL (rep 51 8) := by rw [r2]; rfl
  have c3 : (1085102592571150095 : Int64) = nL (rep 15 8) := by rw [r3]; rfl
  have a1 : nL m - (nL (m / 2) &&& nL (rep 85 8)) = nL (pS1 8 m) := by
    rw [nL_andL, nL_subL (Nat.le_trans Nat.and_le_left (Nat.div_le_self _ _))]; rfl
  have b1 : pS1 8 m ≤ m := Nat.sub_le _ _
  have a2 : (nL (pS1 8 m) &&& nL (rep 51 8)) + (nL (pS1 8 m / 4) &&& nL (rep 51 8)) = nL (pS2 8 (pS1 8 m)) := by
    rw [nL_andL, nL_andL, nL_addL]; rfl
  have b2 : pS2 8 (pS1 8 m) ≤ 2 * m := by
    have x1 : pS1 8 m &&& rep 51 8 ≤ pS1 8 m := Nat.and_le_left
    have x2 : pS1 8 m / 4 &&& rep 51 8 ≤ pS1 8 m / 4 := Nat.and_le_left
    unfold pS2; omega
  have a3 : nL (pS2 8 (pS1 8 m) + pS2 8 (pS1 8 m) / 16) &&& nL (rep 15 8) = nL (pT 8 m) := by
    rw [nL_andL, ← (pA 8 m).1]; rfl
  obtain ⟨p1, p2⟩ := pop_eq (m := m) (by rw [hL]; exact hm)
  have s1 : ((nL m).toUInt64 >>> UInt64.ofNat 1).toInt64 = nL (m / 2) := shU (by omega) (by omega)
  have s2 : ((nL (pS1 8 m)).toUInt64 >>> UInt64.ofNat 2).toInt64 = nL (pS1 8 m / 4) := shU (by omega) (by omega)
  have s3 : ((nL (pS2 8 (pS1 8 m))).toUInt64 >>> UInt64.ofNat 4).toInt64 = nL (pS2 8 (pS1 8 m) / 16) := shU (by omega) (by omega)
  have s4 : ((nL (pT 8 m)).toUInt64 >>> UInt64.ofNat 8).toInt64 = nL (pT 8 m / 256) := shU (by omega) (by omega)
  have s5 : ((nL (pT 8 m + pT 8 m / 256)).toUInt64 >>> UInt64.ofNat 16).toInt64 = nL ((pT 8 m + pT 8 m / 256) / 65536) := shU (by omega) (by omega)
  have s6 : ((nL (pT 8 m + pT 8 m / 256 + (pT 8 m + pT 8 m / 256) / 65536)).toUInt64 >>> UInt64.ofNat 32).toInt64 = nL ((pT 8 m + pT 8 m / 256 + (pT 8 m + pT 8 m / 256) / 65536) / 4294967296) := shU (by omega) (by omega)
  unfold f_J13_bitCount_95d88
  simp only [k1, k2, k4, k8, k16, k32, c1, c2, c3, s1, a1, s2, a2, s3, a3, s4, nL_addL, s5, s6, show (127 : Int32) = nI 127 from rfl]
  rw [nL_toI, p1]
