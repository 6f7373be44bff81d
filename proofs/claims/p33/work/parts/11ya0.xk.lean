/-! THE LAW'S OWN WORKING: rows of signs packed in longs, six bits a sign and 1, the first one lowest -/
def xk : List Nat → Nat
  | [] => 0
  | a :: l => (a + 1) + 64 * xk l
theorem xk_lt {l : List Nat} (h : ∀ x ∈ l, x < 63) : xk l < 64 ^ l.length := by
  induction l with
  | nil => simp [xk]
  | cons a l ih =>
    have h1 := ih (fun x hx => h x (List.mem_cons_of_mem _ hx))
    have h2 := h a List.mem_cons_self
    simp only [xk, List.length_cons, Nat.pow_succ]
    omega
theorem xk_drop {l : List Nat} (h : ∀ x ∈ l, x < 63) : ∀ k, xk l / 64 ^ k = xk (l.drop k) := by
  induction l with
  | nil => intro k; simp [xk]
  | cons a l ih =>
    intro k
    cases k with
    | zero => simp
    | succ k =>
      have h2 := h a List.mem_cons_self
      rw [Nat.pow_succ', ← Nat.div_div_eq_div_mul, List.drop_succ_cons, ← ih (fun x hx => h x (List.mem_cons_of_mem _ hx)) k]
      congr 1
      simp only [xk]
      omega
theorem xk_mod {l : List Nat} (h : ∀ x ∈ l, x < 63) : xk l % 64 = if 0 < l.length then l.getD 0 0 + 1 else 0 := by
  cases l with
  | nil => rfl
  | cons a l =>
    have h2 := h a List.mem_cons_self
    simp only [xk, List.length_cons, Nat.succ_pos, if_true, List.getD_cons_zero]
    omega
theorem getD_drop (l : List Nat) (k i : Nat) : (l.drop k).getD i 0 = l.getD (k + i) 0 := by
  simp only [List.getD_eq_getElem?_getD, List.getElem?_drop]
theorem getD_take {l : List Nat} {k i : Nat} (h : i < k) : (l.take k).getD i 0 = l.getD i 0 := by
  simp only [List.getD_eq_getElem?_getD, List.getElem?_take_of_lt h]
theorem xk_dig {l : List Nat} (h : ∀ x ∈ l, x < 63) (k : Nat) : xk l / 64 ^ k % 64 = if k < l.length then l.getD k 0 + 1 else 0 := by
  rw [xk_drop h, xk_mod (fun x hx => h x (List.mem_of_mem_drop hx)), getD_drop, List.length_drop]
  by_cases e : k < l.length
  · rw [if_pos e, if_pos (by omega)]; rfl
  · rw [if_neg e, if_neg (by omega)]
theorem xk_inj {l r : List Nat} (hl : ∀ x ∈ l, x < 63) (hr : ∀ x ∈ r, x < 63) (h : xk l = xk r) : l = r := by
  induction l generalizing r with
  | nil =>
    cases r with
    | nil => rfl
    | cons b r => simp only [xk] at h; omega
  | cons a l ih =>
    have h2 := hl a List.mem_cons_self
    cases r with
    | nil => simp only [xk] at h; omega
    | cons b r =>
      have h3 := hr b List.mem_cons_self
      simp only [xk] at h
      rw [ih (fun x hx => hl x (List.mem_cons_of_mem _ hx)) (fun x hx => hr x (List.mem_cons_of_mem _ hx)) (by omega), show a = b by omega]
theorem xk_pos {l : List Nat} : (xk l = 0) ↔ l = [] := by
  cases l with
  | nil => simp [xk]
  | cons a l => simp [xk]
theorem xk_snoc {l : List Nat} (h : ∀ x ∈ l, x < 63) (a : Nat) : xk l ||| (a + 1) <<< (6 * l.length) = xk (l ++ [a]) := by
  have e : xk (l ++ [a]) = xk l + 64 ^ l.length * (a + 1) := by
    clear h
    induction l with
    | nil => simp [xk]
    | cons b l ih =>
      simp only [List.cons_append, xk, ih, List.length_cons, Nat.pow_succ']
      rw [Nat.mul_assoc, Nat.mul_add]; omega
  have e2 : (64 : Nat) ^ l.length = 2 ^ (6 * l.length) := by rw [Nat.pow_mul]
  have h1 := xk_lt h
  rw [e2] at h1
  rw [e, e2, Nat.shiftLeft_eq, Nat.mul_comm (a + 1), Nat.or_comm, ← Nat.two_pow_add_eq_or_of_lt h1, Nat.add_comm]
theorem p64_8 : (64 : Nat) ^ 8 = 281474976710656 := by decide
theorem xk_lt8 {l : List Nat} (h : ∀ x ∈ l, x < 63) (h8 : l.length ≤ 8) : xk l < 281474976710656 := by
  have h1 := xk_lt h
  have h2 : (64 : Nat) ^ l.length ≤ 64 ^ 8 := Nat.pow_le_pow_right (by omega) h8
  rw [p64_8] at h2
  omega
/-! long numbers, once more -/
theorem nL_divL {a b : Nat} (ha : a < 9223372036854775808) (hb : b < 9223372036854775808) : nL a / nL b = nL (a / b) := by
  apply Int64.toInt_inj.mp
  have h1 : (nL a).toInt = (a : Int) := nL_toInt (by omega)
  have h2 : (nL b).toInt = (b : Int) := nL_toInt (by omega)
  have h4 : a / b ≤ a := Nat.div_le_self a b
  have h5 : ((a : Int).tdiv (b : Int)) = ((a / b : Nat) : Int) := by
    rw [Int.tdiv_eq_ediv_of_nonneg (by omega)]; norm_cast
  rw [Int64.toInt_div, h1, h2, h5]
  generalize a / b = q at *
  rw [nL_toInt (by omega)]
  apply Int.bmod_eq_of_le <;> omega
theorem nL_subJ {a b : Nat} (h : b ≤ a) : nL a - nL b = nL (a - b) := by
  have e : nL a = nL (a - b) + nL b := by rw [nL_addL]; congr 1; omega
  rw [e, Int64.add_sub_cancel]
theorem jl_64 : (64 : Int64) = nL 64 := rfl
theorem nL_modL {a b : Nat} (ha : a < 9223372036854775808) (hb : b < 9223372036854775808) : nL a - nL a / nL b * nL b = nL (a % b) := by
  rw [nL_divL ha hb, nL_mulL, nL_subJ (Nat.div_mul_le_self a b)]
  congr 1
  have := Nat.div_add_mod a b
  rw [Nat.mul_comm] at this
  omega
theorem nI_modI {a b : Nat} (ha : a < 2147483648) (hb : b < 2147483648) : nI a - nI a / nI b * nI b = nI (a % b) := by
  rw [nI_divI ha hb, nI_mulI, nI_subI (Nat.div_mul_le_self a b)]
  congr 1
  have := Nat.div_add_mod a b
  rw [Nat.mul_comm] at this
  omega
theorem nL_shlL {m s : Nat} (h : s < 64) : nL m <<< nL s = nL (m <<< s) := by
  apply Int64.toBitVec_inj.mp
  rw [Int64.toBitVec_shiftLeft]
  show (nL m).toBitVec <<< ((nL s).toBitVec.smod 64) = _
  rw [nL_bv, nL_bv, BitVec.shiftLeft_eq']
  have e := nL_smod h
  rw [nL_bv] at e
  rw [e]
  apply BitVec.eq_of_toNat_eq
  simp [BitVec.toNat_shiftLeft, Nat.shiftLeft_eq]
  rw [nL_bv, BitVec.toNat_ofNat]
theorem nL_toI32 (a : Nat) : (nL a).toInt32 = nI a := Int64.toInt32_ofNat
theorem nL_pos {a : Nat} (h : a < 9223372036854775808) : (nL 0 < nL a) = (0 < a) := by
  have h0 := nL_toInt h
  have h1 : (nL 0).toInt = 0 := by decide
  refine propext ?_
  rw [Int64.lt_iff_toInt_lt, h0, h1]; omega
/-- word w of a row holds the signs l -/
def Lx (d : Dt) (x w : Nat) (l : List Nat) : Prop := d.2 x (2 * w) = nL (xk (l.take 8)) ∧ d.2 x (2 * w + 1) = nL (xk (l.drop 8))
/-- signs of a word -/
def wrd (l : List Nat) : Prop := l.length ≤ 16 ∧ ∀ x ∈ l, x < 50
theorem wrd.t {l : List Nat} (h : wrd l) : (∀ x ∈ l.take 8, x < 63) ∧ (l.take 8).length ≤ 8 := ⟨fun x hx => by have := h.2 x (List.mem_of_mem_take hx); omega, by rw [List.length_take]; omega⟩
theorem wrd.d {l : List Nat} (h : wrd l) : (∀ x ∈ l.drop 8, x < 63) ∧ (l.drop 8).length ≤ 8 := ⟨fun x hx => by have := h.2 x (List.mem_of_mem_drop hx); omega, by rw [List.length_drop]; have := h.1; omega⟩
theorem wrd.g {l : List Nat} (h : wrd l) (i : Nat) : l.getD i 0 < 50 := getD_lt (by omega) h.2 i
theorem Lx_at {d : Dt} {x w k : Nat} {l : List Nat} (h : Lx d x w l) (hl : wrd l) (hk : k < 16) : ∃ m, d.2 x (2 * w + k / 8) = nL m ∧ m < 281474976710656 ∧ (m >>> (6 * (k % 8))) &&& 63 = if k < l.length then l.getD k 0 + 1 else 0 := by
  have h63 : ∀ n : Nat, n &&& 63 = n % 64 := fun n => Nat.and_two_pow_sub_one_eq_mod n 6
  have hs : ∀ m j : Nat, m >>> (6 * j) = m / 64 ^ j := fun m j => by rw [Nat.shiftRight_eq_div_pow, Nat.pow_mul]
  by_cases e : k < 8
  · refine ⟨xk (l.take 8), by rw [show 2 * w + k / 8 = 2 * w by omega]; exact h.1, xk_lt8 hl.t.1 hl.t.2, ?_⟩
    rw [h63, hs, show k % 8 = k by omega, xk_dig hl.t.1, getD_take e, List.length_take]
    by_cases e2 : k < l.length
    · rw [if_pos e2, if_pos (by omega)]
    · rw [if_neg e2, if_neg (by omega)]
  · refine ⟨xk (l.drop 8), by rw [show 2 * w + k / 8 = 2 * w + 1 by omega]; exact h.2, xk_lt8 hl.d.1 hl.d.2, ?_⟩
    rw [h63, hs, xk_dig hl.d.1, getD_drop, List.length_drop, show 8 + k % 8 = k by omega]
    by_cases e2 : k < l.length
    · rw [if_pos e2, if_pos (by omega)]
    · rw [if_neg e2, if_neg (by omega)]
theorem Lx_eq {d : Dt} {x w y v : Nat} {l r : List Nat} (h : Lx d x w l) (g : Lx d y v r) (hl : wrd l) (hr : wrd r) : (d.2 x (2 * w) = d.2 y (2 * v) ∧ d.2 x (2 * w + 1) = d.2 y (2 * v + 1)) ↔ l = r := by
  rw [h.1, h.2, g.1, g.2]
  have a1 := xk_lt8 hl.t.1 hl.t.2
  have a2 := xk_lt8 hl.d.1 hl.d.2
  have a3 := xk_lt8 hr.t.1 hr.t.2
  have a4 := xk_lt8 hr.d.1 hr.d.2
  rw [nL_eqJ (by omega) (by omega), nL_eqJ (by omega) (by omega)]
  constructor
  · rintro ⟨e1, e2⟩
    have e3 := xk_inj hl.t.1 hr.t.1 e1
    have e4 := xk_inj hl.d.1 hr.d.1 e2
    rw [← List.take_append_drop 8 l, e3, e4, List.take_append_drop]
  · rintro rfl
    exact ⟨rfl, rfl⟩
theorem drop8_s {l : List Nat} {a : Nat} (h : l.length < 8) : (l ++ [a]).take 8 = l.take 8 ++ [a] ∧ (l ++ [a]).drop 8 = l.drop 8 := by
  have e : l.take 8 = l := List.take_of_length_le (by omega)
  have e2 : l.drop 8 = [] := List.drop_eq_nil_of_le (by omega)
  rw [e, e2]
  exact ⟨List.take_of_length_le (by simp; omega), List.drop_eq_nil_of_le (by simp; omega)⟩
theorem drop8_l {l : List Nat} {a : Nat} (h : 8 ≤ l.length) : (l ++ [a]).take 8 = l.take 8 ∧ (l ++ [a]).drop 8 = l.drop 8 ++ [a] :=
  ⟨List.take_append_of_le_length h, List.drop_append_of_le_length h⟩
/-- one sign more -/
theorem Lx_snoc {d : Dt} {x w a : Nat} {l : List Nat} (h : Lx d x w l) (hl : wrd l) (h16 : l.length < 16) {v : Int64} (hv : v = d.2 x (2 * w + l.length / 8) ||| nL ((a + 1) <<< (6 * (l.length % 8)))) : Lx (aw_sL d x (2 * w + l.length / 8) v) x w (l ++ [a]) := by
  by_cases e : l.length < 8
  · have e1 : 2 * w + l.length / 8 = 2 * w := by omega
    rw [e1] at hv ⊢
    have e2 : l.take 8 = l := List.take_of_length_le (by omega)
    refine ⟨?_, ?_⟩
    · rw [aw_sL_e rfl rfl, hv, h.1, nL_orL, (drop8_s e).1, ← xk_snoc hl.t.1, e2, show l.length % 8 = l.length by omega]
    · rw [aw_sL_n (by omega), h.2, (drop8_s e).2]
  · have e1 : 2 * w + l.length / 8 = 2 * w + 1 := by omega
    rw [e1] at hv ⊢
    refine ⟨?_, ?_⟩
    · rw [aw_sL_n (by omega), h.1, (drop8_l (by omega)).1]
    · rw [aw_sL_e rfl rfl, hv, h.2, nL_orL, (drop8_l (by omega)).2, ← xk_snoc hl.d.1, List.length_drop, show l.length % 8 = l.length - 8 by omega]
