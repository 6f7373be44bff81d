/-! what the answers are -/
def sumR (g : Nat → Nat) : Nat → Nat
  | 0 => 0
  | n + 1 => sumR g n + g n
theorem sumR_cg {g h : Nat → Nat} {n : Nat} (e : ∀ u, u < n → g u = h u) : sumR g n = sumR h n := by
  induction n with
  | zero => rfl
  | succ n ih => simp only [sumR]; rw [ih (fun u hu => e u (by omega)), e n (by omega)]
theorem sumR_le {g : Nat → Nat} {n c : Nat} (e : ∀ u, u < n → g u ≤ c) : sumR g n ≤ n * c := by
  induction n with
  | zero => simp [sumR]
  | succ n ih => simp only [sumR]; have := ih (fun u hu => e u (by omega)); have := e n (by omega); rw [Nat.add_mul]; omega
def anyR (p : Nat → Bool) : Nat → Bool
  | 0 => false
  | n + 1 => anyR p n || p n
theorem anyR_cg {p q : Nat → Bool} {n : Nat} (e : ∀ u, u < n → p u = q u) : anyR p n = anyR q n := by
  induction n with
  | zero => rfl
  | succ n ih => simp only [anyR]; rw [ih (fun u hu => e u (by omega)), e n (by omega)]
theorem anyR_iff {p : Nat → Bool} {n : Nat} : anyR p n = true ↔ ∃ u, u < n ∧ p u = true := by
  induction n with
  | zero => simp [anyR]
  | succ n ih =>
    simp only [anyR, Bool.or_eq_true, ih]
    constructor
    · rintro (⟨u, h1, h2⟩ | h)
      · exact ⟨u, by omega, h2⟩
      · exact ⟨n, by omega, h⟩
    · rintro ⟨u, h1, h2⟩
      by_cases e : u = n
      · subst e; exact Or.inr h2
      · exact Or.inl ⟨u, by omega, h2⟩
def foldR {α : Type} (f : α → Nat → α) (z : α) : Nat → α
  | 0 => z
  | n + 1 => f (foldR f z n) n
theorem foldR_cg {α : Type} {f g : α → Nat → α} {z : α} {n : Nat} (e : ∀ a u, u < n → f a u = g a u) : foldR f z n = foldR g z n := by
  induction n with
  | zero => rfl
  | succ n ih => simp only [foldR]; rw [ih (fun a u hu => e a u (by omega)), e _ n (by omega)]
/-- a word as the design's own base speaks it -/
def own (A : St) (D w : Nat) : List Nat := sp A D (A 13 0 D) w
def al (A : St) (D w v : Nat) : Bool := decide (own A D w = own A D v)
def dbt (A : St) (D : Nat) : Nat := sumR (fun w => sumR (fun v => if al A D w v = true then 1 else 0) w) (A 2 0 0)
def ahead (A : St) (D w v : Nat) : Bool := al A D w v && (decide (A 5 0 w < A 5 0 v) || decide (A 5 0 v = A 5 0 w) && decide (v < w))
def loadS (A : St) (D : Nat) : Nat := sumR (fun w => if anyR (ahead A D w) (A 2 0 0) = true then A 5 0 w else 0) (A 2 0 0)
def fitS (A : St) (D b : Nat) : Nat := sumR (fun w => if own A D w = sp A D b w then A 5 0 w else 0) (A 2 0 0)
def lostW (A : St) (D E w : Nat) : Bool := anyR (fun v => al A D w v && !al A E w v) (A 2 0 0)
def lostS (A : St) (D E : Nat) : Nat := sumR (fun w => if lostW A D E w = true then A 5 0 w else 0) (A 2 0 0)
theorem syl_lt {A : St} (hW : WF A) {D : Nat} (hD : D < A 11 0 0) {c x : Nat} (hc : c < 972) (hx : x ∈ syl A D c) : x < 50 := by
  have hu := (hW.G hD).2.2.1
  have b0 : ofc c 0 ≤ 8 := by have h := ofc_lt (p := 0) hc (by omega); simp [vals] at h; omega
  have b1 : ofc c 1 ≤ 3 := by have h := ofc_lt (p := 1) hc (by omega); simp [vals] at h; omega
  have b2 : ofc c 2 ≤ 8 := by have h := ofc_lt (p := 2) hc (by omega); simp [vals] at h; omega
  have b3 : ofc c 3 ≤ 2 := by have h := ofc_lt (p := 3) hc (by omega); simp [vals] at h; omega
  unfold syl at hx
  simp only [List.mem_append] at hx
  rcases hx with (hx | hx) | hx
  · split at hx
    · simp only [List.mem_append] at hx
      rcases hx with hx | hx
      · split at hx
        · cases hx
        · simp only [List.mem_singleton] at hx; subst hx; exact hu _ (by omega)
      · simp only [List.mem_singleton] at hx; subst hx; exact hu _ (by omega)
    · simp only [List.mem_singleton] at hx; subst hx; exact hu _ (by omega)
  · split at hx
    · cases hx
    · simp only [List.mem_singleton] at hx; subst hx; exact hu _ (by omega)
  · split at hx
    · cases hx
    · simp only [List.mem_singleton] at hx; subst hx; exact hu _ (by split <;> omega)
theorem spl_lt {A : St} (hW : WF A) {D b w : Nat} (hD : D < A 11 0 0) (hb : b < 4) (hw : w < A 2 0 0) {x : Nat} : ∀ k, k ≤ A 3 0 w → x ∈ spl A D b w k → x < 50 := by
  intro k
  induction k with
  | zero => intro _ h; cases h
  | succ k ih =>
    intro hk h
    simp only [spl, List.mem_append] at h
    rcases h with h | h
    · exact ih (by omega) h
    · exact syl_lt hW hD (spk_lt hW hb hw (by omega)) h
theorem getD_lt {l : List Nat} {c : Nat} (hc : 0 < c) (h : ∀ x, x ∈ l → x < c) (i : Nat) : l.getD i 0 < c := by
  rw [List.getD_eq_getElem?_getD]
  by_cases e : i < l.length
  · rw [List.getElem?_eq_getElem e]; exact h _ (List.getElem_mem e)
  · rw [List.getElem?_eq_none (by omega)]; exact hc
theorem sp_lt {A : St} (hW : WF A) {D b w : Nat} (hD : D < A 11 0 0) (hb : b < 4) (hw : w < A 2 0 0) (i : Nat) : (sp A D b w).getD i 0 < 50 := getD_lt (by omega) (fun x hx => spl_lt hW hD hb hw _ (Nat.le_refl _) hx) i
theorem own_lt {A : St} (hW : WF A) {D w : Nat} (hD : D < A 11 0 0) (hw : w < A 2 0 0) (i : Nat) : (own A D w).getD i 0 < 50 := sp_lt hW hD (by have := (hW.G hD).2.1; omega) hw i
theorem own_len {A : St} (hW : WF A) (D : Nat) {w : Nat} (hw : w < A 2 0 0) : 1 ≤ (own A D w).length ∧ (own A D w).length ≤ 16 := sp_len hW D _ hw
/-! the model's questions -/
theorem wt_lt {A : St} (hW : WF A) {w : Nat} (hw : w < A 2 0 0) : A 5 0 w ≤ 999 := (hW.w hw).2.2.2.1
theorem bIn (b : Bool) : bI b = if b = true then nI 1 else nI 0 := by cases b <;> rfl
theorem bI_i (c : Prop) [Decidable c] : bI (decide c) = if c then nI 1 else nI 0 := by by_cases h : c <;> simp [h, bI]
