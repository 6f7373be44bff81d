/-! sets of signs -/
def sub (a b : Nat) : Bool := decide (a ||| b = b)
theorem sub_iff {a b : Nat} : sub a b = true ↔ ∀ s, a.testBit s = true → b.testBit s = true := by
  unfold sub
  rw [decide_eq_true_iff]
  constructor
  · intro h s hs
    rw [← h, Nat.testBit_or, hs]; rfl
  · intro h
    apply Nat.eq_of_testBit_eq
    intro s
    rw [Nat.testBit_or]
    cases e : a.testBit s
    · simp
    · rw [h s e]; rfl
/-- the signs of a word, of all words -/
def hasW (A : St) (D w : Nat) : Nat := foldR (fun m k => m ||| 2 ^ ((own A D w).getD k 0)) 0 (own A D w).length
def allS (A : St) (D : Nat) : Nat := foldR (fun m w => m ||| hasW A D w) 0 (A 2 0 0)
def L50 : Nat := 1125899906842624
theorem or50 {a b : Nat} (ha : a < L50) (hb : b < L50) : a ||| b < L50 := Nat.or_lt_two_pow (n := 50) ha hb
theorem pow50 {s : Nat} (hs : s < 50) : 2 ^ s < L50 := Nat.pow_lt_pow_right (by omega) hs
theorem L50_63 {a : Nat} (h : a < L50) : a < 9223372036854775808 := Nat.lt_of_lt_of_le h (by decide)
theorem fold50 {f : Nat → Nat} {n z : Nat} (hz : z < L50) (h : ∀ k, k < n → f k < L50) : foldR (fun m k => m ||| f k) z n < L50 := by
  induction n with
  | zero => exact hz
  | succ n ih => exact or50 (ih (fun k hk => h k (by omega))) (h n (by omega))
theorem fold_bit {f : Nat → Nat} {n z s : Nat} : (foldR (fun m k => m ||| f k) z n).testBit s = true ↔ z.testBit s = true ∨ ∃ k, k < n ∧ (f k).testBit s = true := by
  induction n with
  | zero => simp [foldR]
  | succ n ih =>
    simp only [foldR, Nat.testBit_or, Bool.or_eq_true, ih]
    constructor
    · rintro ((h | ⟨k, h1, h2⟩) | h)
      · exact Or.inl h
      · exact Or.inr ⟨k, by omega, h2⟩
      · exact Or.inr ⟨n, by omega, h⟩
    · rintro (h | ⟨k, h1, h2⟩)
      · exact Or.inl (Or.inl h)
      · by_cases e : k = n
        · subst e; exact Or.inr h2
        · exact Or.inl (Or.inr ⟨k, by omega, h2⟩)
theorem hasW_lt {A : St} (hW : WF A) {D w : Nat} (hD : D < A 11 0 0) (hw : w < A 2 0 0) : hasW A D w < L50 := fold50 (by decide) (fun k _ => pow50 (own_lt hW hD hw k))
theorem allS_lt {A : St} (hW : WF A) {D : Nat} (hD : D < A 11 0 0) : allS A D < L50 := fold50 (by decide) (fun w hw => hasW_lt hW hD hw)
theorem lt50_bit {m s : Nat} (hm : m < L50) (h : m.testBit s = true) : s < 50 := by
  rcases Nat.lt_or_ge s 50 with h50 | h50
  · exact h50
  · rw [Nat.testBit_lt_two_pow (Nat.lt_of_lt_of_le hm (Nat.le_trans (by decide : L50 ≤ 2 ^ 50) (Nat.pow_le_pow_right (by omega) h50)))] at h
    exact absurd h (by simp)
theorem hasW_bit {A : St} {D w s : Nat} : (hasW A D w).testBit s = true ↔ ∃ k, k < (own A D w).length ∧ (own A D w).getD k 0 = s := by
  unfold hasW
  rw [fold_bit]
  simp only [Nat.zero_testBit, Bool.false_eq_true, false_or, Nat.testBit_two_pow, decide_eq_true_iff]
theorem allS_bit {A : St} {D s : Nat} : (allS A D).testBit s = true ↔ ∃ w, w < A 2 0 0 ∧ (hasW A D w).testBit s = true := by
  unfold allS
  rw [fold_bit]
  simp only [Nat.zero_testBit, Bool.false_eq_true, false_or]
/-- the signs of a set, rising -/
def usF (m i : Nat) : List Nat := (List.range i).filter (fun s => m.testBit s)
def usL (m : Nat) : List Nat := usF m 50
theorem usF_s (m i : Nat) : usF m (i + 1) = if m.testBit i = true then usF m i ++ [i] else usF m i := by
  unfold usF
  rw [List.range_succ, List.filter_append]
  cases e : m.testBit i
  · simp [e]
  · simp [e]
theorem usF_len (m i : Nat) : (usF m i).length ≤ i := by
  unfold usF
  exact Nat.le_trans (List.length_filter_le _ _) (by rw [List.length_range]; omega)
theorem usL_len (m : Nat) : (usL m).length ≤ 50 := usF_len m 50
theorem usF_mem {m i s : Nat} : s ∈ usF m i ↔ s < i ∧ m.testBit s = true := by
  unfold usF; rw [List.mem_filter, List.mem_range]
theorem usL_mem {m s : Nat} : s ∈ usL m ↔ s < 50 ∧ m.testBit s = true := usF_mem
theorem getD_mem {l : List Nat} {i : Nat} (h : i < l.length) : l.getD i 0 ∈ l := by
  rw [List.getD_eq_getElem?_getD, List.getElem?_eq_getElem h]; exact List.getElem_mem h
theorem usL_lt (m i : Nat) : (usL m).getD i 0 < 50 := getD_lt (by omega) (fun x hx => (usL_mem.mp hx).1) i
theorem usL_bit {m i : Nat} (h : i < (usL m).length) : m.testBit ((usL m).getD i 0) = true := (usL_mem.mp (getD_mem h)).2
/-- how many signs a set has -/
def cb (m : Nat) : Nat := sumR (fun s => if m.testBit s = true then 1 else 0) 50
theorem usF_cb (m i : Nat) : (usF m i).length = sumR (fun s => if m.testBit s = true then 1 else 0) i := by
  induction i with
  | zero => rfl
  | succ i ih =>
    rw [usF_s]
    simp only [sumR]
    split
    · rw [List.length_append, ih]; rfl
    · exact ih
theorem usL_cb (m : Nat) : (usL m).length = cb m := usF_cb m 50
theorem cb_add {m s : Nat} (hs : s < 50) (h : m.testBit s = false) : cb (m ||| 2 ^ s) = cb m + 1 := by
  have key : ∀ n, sumR (fun u => if (m ||| 2 ^ s).testBit u = true then 1 else 0) n = sumR (fun u => if m.testBit u = true then 1 else 0) n + (if s < n then 1 else 0) := by
    intro n
    induction n with
    | zero => rfl
    | succ n ih =>
      simp only [sumR]
      rw [ih, Nat.testBit_or, Nat.testBit_two_pow]
      by_cases e : s = n
      · subst e
        rw [h, if_neg (Nat.lt_irrefl s), if_pos (show (false || decide (s = s)) = true by simp), if_neg (show ¬ (false = true) by simp), if_pos (Nat.lt_succ_self s)]
      · rw [decide_eq_false e, Bool.or_false]
        by_cases e2 : s < n
        · rw [if_pos e2, if_pos (show s < n + 1 by omega)]; omega
        · rw [if_neg e2, if_neg (show ¬ s < n + 1 by omega)]; omega
  have := key 50
  rw [if_pos hs] at this
  exact this
theorem cb_lt {a b : Nat} (h : cb a < cb b) : ∃ s, s < 50 ∧ b.testBit s = true ∧ a.testBit s = false := by
  have key : ∀ n, sumR (fun u => if a.testBit u = true then 1 else 0) n < sumR (fun u => if b.testBit u = true then 1 else 0) n → ∃ s, s < n ∧ b.testBit s = true ∧ a.testBit s = false := by
    intro n
    induction n with
    | zero => intro h; exact absurd h (Nat.lt_irrefl _)
    | succ n ih =>
      intro h
      simp only [sumR] at h
      cases eb : b.testBit n
      · rw [eb] at h
        obtain ⟨s, h1, h2⟩ := ih (by have : (if false = true then 1 else 0) = 0 := rfl; omega)
        exact ⟨s, by omega, h2⟩
      · cases ea : a.testBit n
        · exact ⟨n, by omega, eb, ea⟩
        · rw [ea, eb] at h
          obtain ⟨s, h1, h2⟩ := ih (by omega)
          exact ⟨s, by omega, h2⟩
  exact key 50 h
theorem cb_0 : cb 0 = 0 := by decide
/-- what one reads with a set -/
def rdW (A : St) (D m : Nat) : Nat := sumR (fun w => if sub (hasW A D w) m = true then A 5 0 w else 0) (A 2 0 0)
theorem rdW_le {A : St} (hW : WF A) (D m : Nat) : rdW A D m ≤ 19980 := by
  have h := sumR_le (g := fun w => if sub (hasW A D w) m = true then A 5 0 w else 0) (n := A 2 0 0) (c := 999) (fun u hu => by
    have := wt_lt hW hu
    show (if _ then _ else _) ≤ 999
    split <;> omega)
  have := hW.words
  unfold rdW; omega
