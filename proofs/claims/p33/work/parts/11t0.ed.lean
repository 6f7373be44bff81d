/-! how far two rows are apart -/
def edS (a b : Nat → Nat) (r : Nat → Nat) (i : Nat) : Nat → Nat
  | 0 => i + 1
  | j + 1 => min (r j + if a i = b j then 0 else 1) (min (r (j + 1)) (edS a b r i j) + 1)
def ed (a b : Nat → Nat) : Nat → Nat → Nat
  | 0 => fun j => j
  | i + 1 => edS a b (ed a b i) i
theorem ed_0j (a b : Nat → Nat) (j : Nat) : ed a b 0 j = j := rfl
theorem ed_i0 (a b : Nat → Nat) (i : Nat) : ed a b i 0 = i := by cases i <;> rfl
theorem ed_ss (a b : Nat → Nat) (i j : Nat) : ed a b (i + 1) (j + 1) = min (ed a b i j + if a i = b j then 0 else 1) (min (ed a b i (j + 1)) (ed a b (i + 1) j) + 1) := rfl
theorem ed_le (a b : Nat → Nat) (i j : Nat) : ed a b i j ≤ i + j := by
  induction j with
  | zero => rw [ed_i0]; omega
  | succ j ih =>
    cases i with
    | zero => rw [ed_0j]; omega
    | succ i => rw [ed_ss]; omega
theorem ed_cg {a b a' b' : Nat → Nat} {n m : Nat} (ha : ∀ i, i < n → a i = a' i) (hb : ∀ j, j < m → b j = b' j) : ∀ i j, i ≤ n → j ≤ m → ed a b i j = ed a' b' i j := by
  intro i
  induction i with
  | zero => intro j _ _; rfl
  | succ i ih =>
    intro j
    induction j with
    | zero => intro _ _; rfl
    | succ j ih2 =>
      intro h1 h2
      rw [ed_ss, ed_ss, ih j (by omega) (by omega), ih (j + 1) (by omega) (by omega), ih2 (by omega) (by omega), ha i (by omega), hb j (by omega)]
theorem min9 (x u1 v1 x1 u2 v2 x2 u3 v3 c e : Nat) : min (min (x + c) (min u1 v1 + 1) + e) (min (min (x1 + c) (min u2 v2 + 1)) (min (x2 + c) (min u3 v3 + 1)) + 1) = min (min (x + e) (min x1 x2 + 1) + c) (min (min (u1 + e) (min u2 u3 + 1)) (min (v1 + e) (min v2 v3 + 1)) + 1) := by
  simp only [← Nat.add_min_add_right, Nat.add_assoc]
  rw [Nat.add_comm e c, Nat.add_comm 1 c, Nat.add_comm 1 e]
  ac_rfl
/-- the first ones instead of the last ones -/
theorem ed_first (n : Nat) : ∀ (a b : Nat → Nat) (i j : Nat), i + j ≤ n → ed a b (i + 1) (j + 1) = min (ed (fun x => a (x + 1)) (fun x => b (x + 1)) i j + if a 0 = b 0 then 0 else 1) (min (ed (fun x => a (x + 1)) b i (j + 1)) (ed a (fun x => b (x + 1)) (i + 1) j) + 1) := by
  induction n with
  | zero =>
    intro a b i j h
    obtain rfl : i = 0 := by omega
    obtain rfl : j = 0 := by omega
    rw [ed_ss]; simp only [ed_0j, ed_i0]
  | succ n ih =>
    intro a b i j h
    cases i with
    | zero =>
      cases j with
      | zero => rw [ed_ss]; simp only [ed_0j, ed_i0]
      | succ j =>
        rw [ed_ss, ih a b 0 j (by omega), ed_ss a (fun x => b (x + 1)) 0 j]
        simp only [ed_0j, ed_i0]
        omega
    | succ i =>
      cases j with
      | zero =>
        rw [ed_ss, ih a b i 0 (by omega), ed_ss (fun x => a (x + 1)) b i 0]
        simp only [ed_0j, ed_i0]
        omega
      | succ j =>
        rw [ed_ss, ih a b i j (by omega), ih a b i (j + 1) (by omega), ih a b (i + 1) j (by omega)]
        rw [ed_ss (fun x => a (x + 1)) (fun x => b (x + 1)) i j, ed_ss (fun x => a (x + 1)) b i (j + 1), ed_ss a (fun x => b (x + 1)) (i + 1) j]
        exact min9 _ _ _ _ _ _ _ _ _ _ _
theorem ed_rev : ∀ (n m : Nat) (a b a' b' : Nat → Nat), (∀ i, i < n → a' i = a (n - 1 - i)) → (∀ j, j < m → b' j = b (m - 1 - j)) → ed a' b' n m = ed a b n m := by
  intro n
  induction n with
  | zero => intro m a b a' b' _ _; rfl
  | succ n ih =>
    intro m
    induction m with
    | zero => intro a b a' b' _ _; rw [ed_i0, ed_i0]
    | succ m ih2 =>
      intro a b a' b' ha hb
      rw [ed_ss, ed_first (n + m) a b n m (Nat.le_refl _)]
      have ea : ∀ i, i < n → a' i = a (n - 1 - i + 1) := fun i hi => by rw [ha i (by omega), show n + 1 - 1 - i = n - 1 - i + 1 by omega]
      have eb : ∀ j, j < m → b' j = b (m - 1 - j + 1) := fun j hj => by rw [hb j (by omega), show m + 1 - 1 - j = m - 1 - j + 1 by omega]
      have en : a' n = a 0 := by rw [ha n (by omega), show n + 1 - 1 - n = 0 by omega]
      have em : b' m = b 0 := by rw [hb m (by omega), show m + 1 - 1 - m = 0 by omega]
      rw [ih m (fun x => a (x + 1)) (fun x => b (x + 1)) a' b' ea eb, ih (m + 1) (fun x => a (x + 1)) b a' b' ea hb, ih2 a (fun x => b (x + 1)) a' b' ha eb, en, em]
/-- of two spellings, of two shapes -/
def edL (l1 l2 : List Nat) : Nat := ed (fun i => l1.getD i 0) (fun j => l2.getD j 0) l1.length l2.length
def edN (a b : Nat) : Nat := ed (dig a) (dig b) (figs a) (figs b)
theorem figs_le {n : Nat} (h : n ≤ 4444) : 1 ≤ figs n ∧ figs n ≤ 4 := by unfold figs; (repeat' split) <;> omega
theorem figs_pow {n i : Nat} (h0 : 1 ≤ n) (h : n ≤ 4444) : n / 10 ^ i = 0 ↔ figs n ≤ i := by
  rw [Nat.div_eq_zero_iff]
  have h10 : ∀ k, 10 ^ k ≤ 10 ^ i ↔ k ≤ i := fun k => Nat.pow_le_pow_iff_right (by omega)
  have e : ∀ k, figs n = k → (10 ^ (k - 1) ≤ n ∧ n < 10 ^ k) := by
    intro k hk
    subst hk
    unfold figs
    repeat' split
    all_goals omega
  obtain ⟨e1, e2⟩ := e _ rfl
  have hf := figs_le h
  constructor
  · rintro (h1 | h1)
    · exact absurd h1 (Nat.pos_iff_ne_zero.mp (Nat.pow_pos (by omega)))
    · have h2 : 10 ^ (figs n - 1) < 10 ^ i := by omega
      have h3 := (Nat.pow_lt_pow_iff_right (a := 10) (by omega)).mp h2
      omega
  · intro h1
    right
    have := (h10 (figs n)).mpr h1
    omega
/-- the figures from the last one on -/
theorem edN_rev (a b : Nat) : ed (fun i => a / 10 ^ i % 10) (fun j => b / 10 ^ j % 10) (figs a) (figs b) = edN a b := by
  refine ed_rev _ _ _ _ _ _ (fun i hi => ?_) (fun j hj => ?_)
  · unfold dig
    congr 3; omega
  · unfold dig
    congr 3; omega
theorem nI_minJ {a b : Nat} (ha : a < 2147483648) (hb : b < 2147483648) : (if nI b ≤ nI a then nI b else nI a) = nI (min a b) := by
  simp only [nI_leJ hb ha]
  by_cases h : b ≤ a
  · rw [if_pos h, Nat.min_eq_right h]
  · rw [if_neg h, Nat.min_eq_left (by omega)]
theorem nI_minL {a b : Nat} (ha : a < 2147483648) (hb : b < 2147483648) : (if nI a < nI b then nI a else nI b) = nI (min b a) := by
  simp only [nI_ltJ ha hb]
  by_cases h : a < b
  · rw [if_pos h, Nat.min_eq_right (by omega)]
  · rw [if_neg h, Nat.min_eq_left (by omega)]
