/-! the model: a word spelled -/
theorem of0 {c : Nat} (hc : c < 972) : ofc c 0 ≤ 8 := by have h := ofc_lt (p := 0) hc (by omega); simp [vals] at h; omega
theorem of1 {c : Nat} (hc : c < 972) : ofc c 1 ≤ 3 := by have h := ofc_lt (p := 1) hc (by omega); simp [vals] at h; omega
theorem of2 {c : Nat} (hc : c < 972) : ofc c 2 ≤ 8 := by have h := ofc_lt (p := 2) hc (by omega); simp [vals] at h; omega
theorem of3 {c : Nat} (hc : c < 972) : ofc c 3 ≤ 2 := by have h := ofc_lt (p := 3) hc (by omega); simp [vals] at h; omega
/-- the first part of a syllable's signs -/
def syA (A : St) (D c : Nat) : List Nat := if A 12 0 D = 0 then (if ofc c 0 = 8 then [] else [A 14 D (ofc c 0)]) else []
theorem syl_e (A : St) (D c : Nat) : syl A D c = ((syA A D c ++ [A 14 D (if A 12 0 D = 0 then 8 + ofc c 1 else 4 * ofc c 0 + ofc c 1)]) ++ (if A 15 D (ofc c 3) = 0 then [] else [A 14 D (44 + ofc c 3)])) ++ (if ofc c 2 = 8 then [] else [A 14 D ((if A 12 0 D = 0 then 0 else 36) + ofc c 2)]) := by
  unfold syl syA
  by_cases h1 : A 12 0 D = 0
  · simp only [h1, if_true]
  · simp only [h1, if_false, List.nil_append]
theorem sp_len {A : St} (hW : WF A) (D b : Nat) {w : Nat} (hw : w < A 2 0 0) : 1 ≤ (sp A D b w).length ∧ (sp A D b w).length ≤ 16 := by
  have h := spl_len A D b w (A 3 0 w)
  have h2 := hW.w hw
  unfold sp; omega
