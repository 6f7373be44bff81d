/-! the model: primers -/
def unS (A : St) (D L s : Nat) : Nat := sumR (fun w => if ((hasW A D w).testBit s && !sub (hasW A D w) L) = true then A 5 0 w else 0) (A 2 0 0)
def bstC (A : St) (D L : Nat) (acc : Nat × Nat × Nat) (s : Nat) : Bool := !L.testBit s && (decide (acc.1 = 0) || decide (acc.2.1 < rdW A D (L ||| 2 ^ s)) || decide (rdW A D (L ||| 2 ^ s) = acc.2.1) && decide (acc.2.2 < unS A D L s))
def bstI (A : St) (D L : Nat) (acc : Nat × Nat × Nat) (s : Nat) : Nat × Nat × Nat := if bstC A D L acc s = true then (s + 1, rdW A D (L ||| 2 ^ s), unS A D L s) else acc
def bstK (A : St) (D L n : Nat) : Nat × Nat × Nat := foldR (fun acc k => bstI A D L acc ((usL (allS A D)).getD k 0)) (0, 0, 0) n
def bst (A : St) (D L : Nat) : Nat × Nat × Nat := bstK A D L (usL (allS A D)).length
def lrn (A : St) (D : Nat) : Nat → Nat
  | 0 => 0
  | n + 1 => lrn A D n ||| 2 ^ ((bst A D (lrn A D n)).1 - 1)
def pick (A : St) (D n : Nat) : Nat := (bst A D (lrn A D n)).1 - 1
def costI (A : St) (D : Nat) : Int32 := foldR (fun c n => c + nI (n + 1) * (nI (bst A D (lrn A D n)).2.1 - nI (rdW A D (lrn A D n)))) (nI 0) (usL (allS A D)).length
theorem unS_le {A : St} (hW : WF A) (D L s : Nat) : unS A D L s ≤ 19980 := by
  have h := sumR_le (g := fun w => if ((hasW A D w).testBit s && !sub (hasW A D w) L) = true then A 5 0 w else 0) (n := A 2 0 0) (c := 999) (fun u hu => by
    have := wt_lt hW hu
    show (if _ then _ else _) ≤ 999
    split <;> omega)
  have := hW.words
  unfold unS; omega
/-- what the search has found after n signs -/
theorem bstK_is (A : St) (D L : Nat) : ∀ n, n ≤ (usL (allS A D)).length → (bstK A D L n = (0, 0, 0) ∧ ∀ k, k < n → L.testBit ((usL (allS A D)).getD k 0) = true) ∨ ∃ k, k < n ∧ L.testBit ((usL (allS A D)).getD k 0) = false ∧ bstK A D L n = ((usL (allS A D)).getD k 0 + 1, rdW A D (L ||| 2 ^ ((usL (allS A D)).getD k 0)), unS A D L ((usL (allS A D)).getD k 0)) := by
  intro n
  induction n with
  | zero => intro _; exact Or.inl ⟨rfl, fun k hk => by omega⟩
  | succ n ih =>
    intro hn
    have e : bstK A D L (n + 1) = bstI A D L (bstK A D L n) ((usL (allS A D)).getD n 0) := rfl
    rw [e]
    cases hb : L.testBit ((usL (allS A D)).getD n 0)
    · by_cases hc : bstC A D L (bstK A D L n) ((usL (allS A D)).getD n 0) = true
      · right
        exact ⟨n, by omega, hb, by unfold bstI; rw [if_pos hc]⟩
      · rcases ih (by omega) with ⟨h1, h2⟩ | ⟨k, h1, h2, h3⟩
        · exact absurd (by rw [h1]; unfold bstC; rw [hb]; rfl) hc
        · right
          exact ⟨k, by omega, h2, by unfold bstI; rw [if_neg hc]; exact h3⟩
    · have hc : ¬ bstC A D L (bstK A D L n) ((usL (allS A D)).getD n 0) = true := by unfold bstC; rw [hb]; simp only [Bool.not_true, Bool.false_and]; exact Bool.false_ne_true
      have e2 : bstI A D L (bstK A D L n) ((usL (allS A D)).getD n 0) = bstK A D L n := by unfold bstI; rw [if_neg hc]
      rw [e2]
      rcases ih (by omega) with ⟨h1, h2⟩ | ⟨k, h1, h2, h3⟩
      · refine Or.inl ⟨h1, fun k hk => ?_⟩
        by_cases e3 : k = n
        · subst e3; exact hb
        · exact h2 k (by omega)
      · exact Or.inr ⟨k, by omega, h2, h3⟩
theorem bstK_le {A : St} (hW : WF A) (D L n : Nat) (hn : n ≤ (usL (allS A D)).length) : (bstK A D L n).1 ≤ 50 ∧ (bstK A D L n).2.1 ≤ 19980 ∧ (bstK A D L n).2.2 ≤ 19980 := by
  rcases bstK_is A D L n hn with ⟨h1, _⟩ | ⟨k, h1, h2, h3⟩
  · rw [h1]; exact ⟨Nat.zero_le _, Nat.zero_le _, Nat.zero_le _⟩
  · rw [h3]
    have := usL_lt (allS A D) k
    exact ⟨by show _ + 1 ≤ 50; omega, rdW_le hW _ _, unS_le hW _ _ _⟩
theorem sub_of_bits {a b : Nat} (h : ∀ s, a.testBit s = true → b.testBit s = true) : sub a b = true := sub_iff.mpr h
/-- while not all signs are learned there is a next one -/
theorem bst_some {A : St} (hW : WF A) {D L : Nat} (hc : cb L < (usL (allS A D)).length) : (bst A D L).1 ≠ 0 ∧ (bst A D L).1 - 1 < 50 ∧ (allS A D).testBit ((bst A D L).1 - 1) = true ∧ L.testBit ((bst A D L).1 - 1) = false ∧ (bst A D L).2.1 = rdW A D (L ||| 2 ^ ((bst A D L).1 - 1)) := by
  rcases bstK_is A D L _ (Nat.le_refl _) with ⟨h1, h2⟩ | ⟨k, h1, h2, h3⟩
  · rw [usL_cb] at hc
    obtain ⟨s, s1, s2, s3⟩ := cb_lt hc
    have hm : s ∈ usL (allS A D) := usL_mem.mpr ⟨s1, s2⟩
    obtain ⟨i, hi, e⟩ := List.mem_iff_getElem.mp hm
    have h4 := h2 i hi
    rw [List.getD_eq_getElem?_getD, List.getElem?_eq_getElem hi] at h4
    simp only [Option.getD_some, e] at h4
    rw [s3] at h4
    exact absurd h4 (by simp)
  · have h4 : bst A D L = ((usL (allS A D)).getD k 0 + 1, rdW A D (L ||| 2 ^ ((usL (allS A D)).getD k 0)), unS A D L ((usL (allS A D)).getD k 0)) := h3
    rw [h4]
    refine ⟨by show _ + 1 ≠ 0; omega, ?_, ?_, ?_, ?_⟩
    · show (usL (allS A D)).getD k 0 + 1 - 1 < 50
      rw [Nat.add_sub_cancel]; exact usL_lt _ _
    · show (allS A D).testBit ((usL (allS A D)).getD k 0 + 1 - 1) = true
      rw [Nat.add_sub_cancel]; exact usL_bit h1
    · show L.testBit ((usL (allS A D)).getD k 0 + 1 - 1) = false
      rw [Nat.add_sub_cancel]; exact h2
    · show rdW A D _ = rdW A D (L ||| 2 ^ ((usL (allS A D)).getD k 0 + 1 - 1))
      rw [Nat.add_sub_cancel]
theorem lrn_is {A : St} (hW : WF A) {D : Nat} : ∀ n, n ≤ (usL (allS A D)).length → cb (lrn A D n) = n ∧ lrn A D n < L50 ∧ ∀ s, (lrn A D n).testBit s = true → (allS A D).testBit s = true := by
  intro n
  induction n with
  | zero => intro _; exact ⟨cb_0, (by decide : 0 < L50), fun s hs => by simp [lrn] at hs⟩
  | succ n ih =>
    intro hn
    obtain ⟨h1, h2, h3⟩ := ih (by omega)
    obtain ⟨b1, b2, b3, b4, b5⟩ := bst_some (D := D) (L := lrn A D n) hW (by omega)
    refine ⟨?_, or50 h2 (pow50 b2), fun s hs => ?_⟩
    · show cb (lrn A D n ||| 2 ^ ((bst A D (lrn A D n)).1 - 1)) = n + 1
      rw [cb_add b2 b4, h1]
    · have hs' : (lrn A D n ||| 2 ^ ((bst A D (lrn A D n)).1 - 1)).testBit s = true := hs
      rw [Nat.testBit_or, Nat.testBit_two_pow, Bool.or_eq_true, decide_eq_true_iff] at hs'
      rcases hs' with h | h
      · exact h3 s h
      · rw [← h]; exact b3
theorem and_p2 (a s : Nat) : (a &&& 2 ^ s = 0) = (a.testBit s = false) := by
  refine propext ⟨fun h => ?_, fun h => Nat.eq_of_testBit_eq (fun i => ?_)⟩
  · have h1 := congrArg (fun x : Nat => x.testBit s) h
    simpa [Nat.testBit_and, Nat.testBit_two_pow] using h1
  · rw [Nat.testBit_and, Nat.testBit_two_pow, Nat.zero_testBit]
    by_cases e : s = i
    · subst e; rw [h]; rfl
    · rw [decide_eq_false e, Bool.and_false]
theorem and_lt63 {a b : Nat} (h : a < 9223372036854775808) : a &&& b < 9223372036854775808 := Nat.lt_of_le_of_lt Nat.and_le_left h

def o_primer (A : St) (D p : Int32) : Res := if ix D (A 11 0 0) = true ∧ ¬ p < nI 0 then (0, (if p.toNatClampNeg < (usL (allS A D.toNatClampNeg)).length then nI (pick A D.toNatClampNeg p.toNatClampNeg) else NO), A) else o_bad A 1
def o_cost (A : St) (D : Int32) : Res := if ix D (A 11 0 0) = true then (0, costI A D.toNatClampNeg, A) else o_bad A 1
