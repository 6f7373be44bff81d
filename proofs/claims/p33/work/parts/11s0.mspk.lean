/-! spellings: what they are -/
/-- the signs of a syllable -/
def syl (A : St) (D c : Nat) : List Nat :=
  ((if A 12 0 D = 0 then (if ofc c 0 = 8 then [] else [A 14 D (ofc c 0)]) ++ [A 14 D (8 + ofc c 1)] else [A 14 D (4 * ofc c 0 + ofc c 1)]) ++ (if A 15 D (ofc c 3) = 0 then [] else [A 14 D (44 + ofc c 3)])) ++ (if ofc c 2 = 8 then [] else [A 14 D ((if A 12 0 D = 0 then 0 else 36) + ofc c 2)])
/-- the spelling of so many syllables of a word -/
def spl (A : St) (D b w : Nat) : Nat → List Nat
  | 0 => []
  | k + 1 => spl A D b w k ++ syl A D (spk A b w k)
def sp (A : St) (D b w : Nat) : List Nat := spl A D b w (A 3 0 w)
theorem syl_len (A : St) (D c : Nat) : 1 ≤ (syl A D c).length ∧ (syl A D c).length ≤ 4 := by
  unfold syl
  by_cases h1 : A 12 0 D = 0 <;> by_cases h2 : ofc c 0 = 8 <;> by_cases h3 : A 15 D (ofc c 3) = 0 <;> by_cases h4 : ofc c 2 = 8 <;> simp [h1, h2, h3, h4]
theorem spl_len (A : St) (D b w k : Nat) : k ≤ (spl A D b w k).length ∧ (spl A D b w k).length ≤ 4 * k := by
  induction k with
  | zero => simp [spl]
  | succ k ih =>
    have h := syl_len A D (spk A b w k)
    simp only [spl, List.length_append]; omega
/-- a list written -/
def Wr (c s : Nat) (l : List Nat) (d d' : Dt) : Prop := (∀ i, i < l.length → d'.1 c (s + i) = nI (l.getD i 0)) ∧ (∀ a b, ¬ (a = c ∧ s ≤ b ∧ b < s + l.length) → d'.1 a b = d.1 a b) ∧ d'.2 = d.2
theorem Wr.nil {c s : Nat} {d : Dt} : Wr c s [] d d := ⟨fun i hi => by simp at hi, fun _ _ _ => rfl, rfl⟩
theorem Wr.snoc {c s v : Nat} {l : List Nat} {d d' : Dt} (h : Wr c s l d d') : Wr c s (l ++ [v]) d (aw_sI d' c (s + l.length) (nI v)) := by
  refine ⟨fun i hi => ?_, fun a b hab => ?_, h.2.2⟩
  · simp only [List.length_append, List.length_cons, List.length_nil] at hi
    by_cases e : i = l.length
    · subst e
      rw [aw_sI_e rfl rfl]
      simp [List.getD_eq_getElem?_getD]
    · rw [aw_sI_n (by omega), h.1 i (by omega)]
      congr 1
      simp only [List.getD_eq_getElem?_getD]
      rw [List.getElem?_append_left (by omega)]
  · simp only [List.length_append, List.length_cons, List.length_nil] at hab
    rw [aw_sI_n (by omega), h.2.1 a b (by omega)]
theorem Wr.app {c s : Nat} {l1 l2 : List Nat} {d d1 d2 : Dt} (h : Wr c s l1 d d1) (g : Wr c (s + l1.length) l2 d1 d2) : Wr c s (l1 ++ l2) d d2 := by
  refine ⟨fun i hi => ?_, fun a b hab => ?_, g.2.2.trans h.2.2⟩
  · rw [List.length_append] at hi
    simp only [List.getD_eq_getElem?_getD]
    by_cases e : i < l1.length
    · rw [g.2.1 c (s + i) (by omega), h.1 i e, List.getElem?_append_left e, List.getD_eq_getElem?_getD]
    · have h1 := g.1 (i - l1.length) (by omega)
      rw [show s + l1.length + (i - l1.length) = s + i by omega] at h1
      rw [List.getElem?_append_right (by omega), ← List.getD_eq_getElem?_getD, ← h1]
  · rw [List.length_append] at hab
    rw [g.2.1 a b (by omega), h.2.1 a b (by omega)]
theorem Wr.o {c s : Nat} {l : List Nat} {d d' : Dt} (h : Wr c s l d d') {a : Nat} (ha : a ≠ c) : d'.1 a = d.1 a := by
  funext b; exact h.2.1 a b (by omega)
/-- cells from lo to hi alone -/
def Fr (lo hi : Nat) (d d' : Dt) : Prop := ∀ c, ¬ (lo ≤ c ∧ c ≤ hi) → d'.1 c = d.1 c ∧ d'.2 c = d.2 c
theorem Fr.rf {lo hi : Nat} {d : Dt} : Fr lo hi d d := fun _ _ => ⟨rfl, rfl⟩
theorem Fr.tr {lo hi : Nat} {a b c : Dt} (h : Fr lo hi a b) (g : Fr lo hi b c) : Fr lo hi a c := fun k hk => ⟨(g k hk).1.trans (h k hk).1, (g k hk).2.trans (h k hk).2⟩
theorem Fr.mono {lo hi lo' hi' : Nat} {a b : Dt} (h : Fr lo hi a b) (h1 : lo' ≤ lo) (h2 : hi ≤ hi') : Fr lo' hi' a b := fun k hk => h k (by omega)
theorem Fr.w {lo hi : Nat} {a b : Dt} {c j : Nat} {v : Int32} (hc : lo ≤ c ∧ c ≤ hi) (h : Fr lo hi a b) : Fr lo hi a (aw_sI b c j v) := fun k hk => ⟨by rw [← (h k hk).1]; funext i; exact aw_sI_n (by omega), (h k hk).2⟩
theorem Fr.wl {lo hi : Nat} {a b : Dt} {c j : Nat} {v : Int64} (hc : lo ≤ c ∧ c ≤ hi) (h : Fr lo hi a b) : Fr lo hi a (aw_sL b c j v) := fun k hk => ⟨(h k hk).1, by rw [← (h k hk).2]; funext i; exact aw_sL_n (by omega)⟩
theorem Wr.fr {c s : Nat} {l : List Nat} {d d' : Dt} (h : Wr c s l d d') : Fr c c d d' := fun a ha => ⟨h.o (by omega), by rw [h.2.2]⟩
/-! the model: a word spoken -/
theorem nvv_id {p f t b n k r : Nat} (h : ¬ (b = 0 ∨ k + 1 = n)) : nvv p f t b n k r = r := by unfold nvv; rw [if_neg h]
/-- a dialect as the methods take it -/
def dI (b : Nat) : Int32 := nI b - nI 1
theorem dI_s (b : Nat) (h : 0 < b) : dI b = nI (b - 1) := nI_subI (by omega)
theorem dI_0 : dI 0 = NO := rfl
