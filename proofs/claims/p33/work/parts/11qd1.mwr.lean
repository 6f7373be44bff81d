/-! the model's calls that write -/
theorem WF.des {A : St} (h : WF A) : A 11 0 0 ≤ 5 := h.2.2.2.2.2.1
theorem WF.words {A : St} (h : WF A) : A 2 0 0 ≤ 20 := h.2.2.1
theorem WF.G {A : St} (h : WF A) {D : Nat} (hD : D < A 11 0 0) : A 12 0 D ≤ 1 ∧ A 13 0 D ≤ 3 ∧ (∀ u, u < 47 → A 14 D u < 50) ∧ (∀ t, t < 3 → A 15 D t ≤ 1) ∧ ∀ s, s < 50 → A 16 D s < 50 := h.2.2.2.2.2.2.1 D hD
theorem WF.w {A : St} (h : WF A) {w : Nat} (hw : w < A 2 0 0) : 1 ≤ A 3 0 w ∧ A 3 0 w ≤ 4 ∧ 1 ≤ A 5 0 w ∧ A 5 0 w ≤ 999 ∧ ∀ k, k < A 3 0 w → A 4 w k < 972 := h.2.2.2.1 w hw
theorem WF.x {A : St} (h : WF A) {x : Nat} (hx : x < 3) : A 6 0 x ≤ 6 ∧ ∀ c, c < A 6 0 x → A 7 x c < 4 ∧ A 8 x c < vals (A 7 x c) ∧ A 9 x c < vals (A 7 x c) ∧ A 10 x c ≤ 1 := h.2.2.2.2.1 x hx
theorem WF.s {A : St} (h : WF A) {s : Nat} (hs : s < 50) : isShape (A 17 0 s) := h.2.2.2.2.2.2.2.1 s hs
theorem WF.g {A : St} (h : WF A) {g : Nat} (hg : g < 4) : A 18 0 g ≤ 999 ∧ A 19 0 g ≤ 999 ∧ A 20 0 g < 3 := h.2.2.2.2.2.2.2.2 g hg
