/-! the model: the least cost -/
def del (a s : Nat) : Nat := a ^^^ (a &&& 2 ^ s)
theorem del_bit (a s i : Nat) : (del a s).testBit i = (a.testBit i && decide (i ≠ s)) := by
  unfold del
  rw [Nat.testBit_xor, Nat.testBit_and, Nat.testBit_two_pow]
  by_cases e : s = i
  · subst e; simp
  · have e' : ¬ i = s := fun h => e h.symm
    simp [e, e']
theorem nL_del {a s : Nat} : nL a &&& ~~~ nL (2 ^ s) = nL (del a s) := by
  apply Int64.toBitVec_inj.mp
  apply BitVec.eq_of_getLsbD_eq
  intro i hi
  simp only [Int64.toBitVec_and, Int64.toBitVec_not, nL_bv, BitVec.getLsbD_and, BitVec.getLsbD_not, BitVec.getLsbD_ofNat, hi, decide_true, Bool.true_and, del_bit, Nat.testBit_two_pow]
  by_cases e : s = i
  · subst e; simp
  · have e' : ¬ i = s := fun h => e h.symm
    simp [e, e']

theorem b10 {k s : Nat} (hk : k < 10) (hs : s < 1024) : (nI s >>> (nI k &&& nI 31)) &&& nI 1 = nI (if s.testBit k = true then 1 else 0) := (by decide +kernel : ∀ k, k < 10 → ∀ s, s < 1024 → (nI s >>> (nI k &&& nI 31)) &&& nI 1 = nI (if s.testBit k = true then 1 else 0)) k hk s hs
theorem d10 {k s : Nat} (hk : k < 10) (hs : s < 1024) (h : s.testBit k = true) : nI s &&& ((nI 1 <<< (nI k &&& nI 31)) ^^^ (-nI 1)) = nI (s - 2 ^ k) := (by decide +kernel : ∀ k, k < 10 → ∀ s, s < 1024 → s.testBit k = true → nI s &&& ((nI 1 <<< (nI k &&& nI 31)) ^^^ (-nI 1)) = nI (s - 2 ^ k)) k hk s hs h
theorem p10 {n : Nat} (hn : n ≤ 10) : nI 1 <<< (nI n &&& nI 31) = nI (2 ^ n) := (by decide +kernel : ∀ n, n ≤ 10 → nI 1 <<< (nI n &&& nI 31) = nI (2 ^ n)) n hn
theorem pw10 {n : Nat} (hn : n ≤ 10) : 1 ≤ 2 ^ n ∧ 2 ^ n ≤ 1024 := ⟨Nat.pow_pos (by omega), Nat.pow_le_pow_right (n := 2) (by omega) hn⟩
theorem bit_ge {s k : Nat} (h : s.testBit k = true) : 2 ^ k ≤ s := Nat.ge_two_pow_of_testBit h
/-- the signs of a set of places, and how many -/
def mS (u : Nat → Nat) (n s : Nat) : Nat := foldR (fun m k => if s.testBit k = true then m ||| 2 ^ u k else m) 0 n
def nS (n s : Nat) : Nat := sumR (fun k => if s.testBit k = true then 1 else 0) n
theorem mS_lt {u : Nat → Nat} (hu : ∀ k, u k < 50) (s : Nat) : ∀ n, mS u n s < L50 := by
  intro n
  induction n with
  | zero => exact (by decide : 0 < L50)
  | succ n ih =>
    show (if s.testBit n = true then mS u n s ||| 2 ^ u n else mS u n s) < L50
    split
    · exact or50 ih (pow50 (hu n))
    · exact ih
theorem nS_le (n s : Nat) : nS n s ≤ n := by
  have h := sumR_le (g := fun k => if s.testBit k = true then 1 else 0) (n := n) (c := 1) (fun u _ => by show (if _ then _ else _) ≤ 1; split <;> omega)
  unfold nS; omega
/-- one step: the value with place k last -/
def lcX (A : St) (D : Nat) (u : Nat → Nat) (n : Nat) (t : Nat → Nat) (s k : Nat) : Nat := t (s - 2 ^ k) + nS n s * (rdW A D (mS u n s) - rdW A D (del (mS u n s) (u k)))
def lcI (A : St) (D : Nat) (u : Nat → Nat) (n : Nat) (t : Nat → Nat) (s acc k : Nat) : Nat := if s.testBit k = true then (if acc = 0 then lcX A D u n t s k + 1 else min acc (lcX A D u n t s k + 1)) else acc
def lcV (A : St) (D : Nat) (u : Nat → Nat) (n : Nat) (t : Nat → Nat) (s : Nat) : Nat := foldR (lcI A D u n t s) (if s = 0 then 1 else 0) n - 1
def lcT (A : St) (D : Nat) (u : Nat → Nat) (n : Nat) : Nat → Nat → Nat
  | 0 => fun _ => 0
  | s + 1 => fun x => if x = s then lcV A D u n (lcT A D u n s) s else lcT A D u n s x
def lcS (A : St) (D : Nat) (u : Nat → Nat) (n : Nat) : Nat := lcT A D u n (2 ^ n) (2 ^ n - 1)
theorem rdW_mono {A : St} {D a b : Nat} (h : ∀ s, a.testBit s = true → b.testBit s = true) : rdW A D a ≤ rdW A D b := by
  unfold rdW
  generalize A 2 0 0 = n
  induction n with
  | zero => exact Nat.le_refl _
  | succ n ih =>
    simp only [sumR]
    refine Nat.add_le_add ih ?_
    by_cases e : sub (hasW A D n) a = true
    · rw [if_pos e, if_pos (sub_iff.mpr (fun s hs => h s (sub_iff.mp e s hs)))]; exact Nat.le_refl _
    · rw [if_neg e]; exact Nat.zero_le _
theorem rdW_del (A : St) (D a s : Nat) : rdW A D (del a s) ≤ rdW A D a := rdW_mono (fun i h => by rw [del_bit] at h; simp at h; exact h.1)
/-- the values stay small -/
theorem lcX_le {A : St} (hW : WF A) {D : Nat} {u : Nat → Nat} {n s k c : Nat} {t : Nat → Nat} (hn : n ≤ 10) (h : t (s - 2 ^ k) ≤ c) : lcX A D u n t s k ≤ c + 199800 := by
  have h1 := nS_le n s
  have h2 := rdW_le hW D (mS u n s)
  have h3 : nS n s * (rdW A D (mS u n s) - rdW A D (del (mS u n s) (u k))) ≤ 10 * 19980 := Nat.mul_le_mul (by omega) (by omega)
  unfold lcX; omega
theorem lcI_le {A : St} (hW : WF A) {D : Nat} {u : Nat → Nat} {n s c z : Nat} {t : Nat → Nat} (hn : n ≤ 10) (hz : z ≤ 1) (h : ∀ k, s.testBit k = true → t (s - 2 ^ k) ≤ c) : ∀ i, foldR (lcI A D u n t s) z i ≤ c + 199801 := by
  intro i
  induction i with
  | zero => show z ≤ _; omega
  | succ i ih =>
    show lcI A D u n t s (foldR (lcI A D u n t s) z i) i ≤ _
    unfold lcI
    split
    · next hb =>
      have := lcX_le (u := u) hW (D := D) hn (h i hb)
      split <;> omega
    · exact ih
/-- every entry of the table, by how many steps it took -/
theorem lcT_le {A : St} (hW : WF A) {D : Nat} {u : Nat → Nat} {n : Nat} (hn : n ≤ 10) : ∀ s x, x < s → lcT A D u n s x ≤ 199801 * x + 199801 := by
  intro s
  induction s with
  | zero => intro x hx; omega
  | succ s ih =>
    intro x hx
    show (if x = s then lcV A D u n (lcT A D u n s) s else lcT A D u n s x) ≤ _
    by_cases e : x = s
    · rw [if_pos e]
      subst e
      unfold lcV
      have h := lcI_le (u := u) (t := lcT A D u n x) (z := if x = 0 then 1 else 0) (c := 199801 * x) (s := x) hW (D := D) hn (by split <;> omega) (fun k hk => by
        have hge := bit_ge hk
        have hp : 0 < 2 ^ k := Nat.pow_pos (by omega)
        have := ih (x - 2 ^ k) (by omega)
        omega) n
      omega
    · rw [if_neg e]; exact ih x (by omega)
theorem lcI_pos {A : St} {D : Nat} {u : Nat → Nat} {n s z : Nat} {t : Nat → Nat} : ∀ i, (∃ k, k < i ∧ s.testBit k = true) ∨ 0 < z → 0 < foldR (lcI A D u n t s) z i := by
  intro i
  induction i with
  | zero => rintro (⟨k, h, _⟩ | h); · omega
            · exact h
  | succ i ih =>
    intro h
    show 0 < lcI A D u n t s (foldR (lcI A D u n t s) z i) i
    unfold lcI
    by_cases hb : s.testBit i = true
    · rw [if_pos hb]; split <;> omega
    · rw [if_neg hb]
      refine ih ?_
      rcases h with ⟨k, h1, h2⟩ | h
      · have : k ≠ i := fun e => hb (e ▸ h2)
        exact Or.inl ⟨k, by omega, h2⟩
      · exact Or.inr h
theorem some_bit {s n : Nat} (hs : s < 2 ^ n) (h0 : s ≠ 0) : ∃ k, k < n ∧ s.testBit k = true := by
  obtain ⟨k, hk⟩ := Nat.exists_testBit_of_ne_zero h0
  refine ⟨k, ?_, hk⟩
  rcases Nat.lt_or_ge k n with h | h
  · exact h
  · rw [Nat.testBit_lt_two_pow (Nat.lt_of_lt_of_le hs (Nat.pow_le_pow_right (by omega) h))] at hk; exact absurd hk (by simp)
