/-! the abstract state: A f i j -/
abbrev St : Type := Nat → Nat → Nat → Nat
def stU (A : St) (f i j v : Nat) : St := fun a b c => if a = f ∧ b = i ∧ c = j then v else A a b c
theorem stU_e {A : St} {f i j v a b c : Nat} (h1 : a = f) (h2 : b = i) (h3 : c = j) : stU A f i j v a b c = v := if_pos ⟨h1, h2, h3⟩
theorem stU_n {A : St} {f i j v a b c : Nat} (h : ¬ (a = f ∧ b = i ∧ c = j)) : stU A f i j v a b c = A a b c := if_neg h
/-- how many values a part has -/
def vals (p : Nat) : Nat := if p = 1 then 4 else if p = 3 then 3 else 9
/-- a part of a code -/
def ofc (c p : Nat) : Nat := if p = 0 then c / 108 else if p = 1 then c / 27 % 4 else if p = 2 then c / 3 % 9 else c % 3
def stp (p : Nat) : Nat := if p = 0 then 108 else if p = 1 then 27 else if p = 2 then 3 else 1
/-- one change at a code -/
def alt1 (p f t c : Nat) : Nat := if ofc c p = f then c + t * stp p - f * stp p else c
/-- the first m changes of dialect x at place k of a word of n syllables -/
def alts (A : St) (x n k : Nat) (c : Nat) : Nat → Nat
  | 0 => c
  | m + 1 => if A 10 x m = 0 ∨ k + 1 = n then alt1 (A 7 x m) (A 8 x m) (A 9 x m) (alts A x n k c m) else alts A x n k c m
/-- word w at place k as dialect b - 1 speaks it; 0: as it is -/
def spk (A : St) (b w k : Nat) : Nat := if b = 0 then A 4 w k else alts A (b - 1) (A 3 0 w) k (A 4 w k) (A 6 0 (b - 1))
def figs (n : Nat) : Nat := if n < 10 then 1 else if n < 100 then 2 else if n < 1000 then 3 else 4
def dig (n p : Nat) : Nat := n / 10 ^ (figs n - 1 - p) % 10
def RepD (A : St) (d : Dt) (b x : Nat) : Prop := d.1 x 7 = nI (A 2 0 0) ∧ (∀ w, w < A 2 0 0 → d.1 (x + 26) w = nI (A 3 0 w)) ∧ (∀ w, w < A 2 0 0 → ∀ k, k < A 3 0 w → d.1 (x + 6 + w) k = nI (spk A b w k)) ∧ (b = 0 → d.1 x 4 = nI 0) ∧ (0 < b → d.1 x 4 = nI (A 6 0 (b - 1)) ∧ ∀ c, c < 6 → d.1 (x + 1) c = nI (A 7 (b - 1) c) ∧ d.1 (x + 2) c = nI (A 8 (b - 1) c) ∧ d.1 (x + 3) c = nI (A 9 (b - 1) c) ∧ d.1 (x + 4) c = nI (A 10 (b - 1) c))
def RepG (A : St) (d : Dt) (D x : Nat) : Prop := d.1 x 0 = nI (A 12 0 D) ∧ d.1 x 1 = nI (A 13 0 D) - 1 ∧ (∀ u, u < 47 → d.1 (x + 1) u = nI (A 14 D u)) ∧ (∀ t, t < 3 → d.1 (x + 2) t = nI (A 15 D t)) ∧ (∀ s, s < 50 → d.1 (x + 3) s = nI (A 16 D s))
/-- the cells of the class -/
def RepC (A : St) (d : Dt) : Prop :=
  d.1 1 1 = nI (A 0 0 0) ∧ (∀ k, k < 4 → d.1 2 k = nI (A 1 0 k)) ∧ (∀ w, w < 20 → d.1 3 w = nI (A 5 0 w)) ∧ d.1 1 3 = nI (A 2 0 0) ∧ d.1 0 4 = nI (A 11 0 0) ∧ (∀ b, b < 4 → RepD A d b (dlx b)) ∧
  (∀ s, s < 50 → d.1 36 s = nI (A 17 0 s) ∧ d.1 88 s = nI (figs (A 17 0 s)) ∧ ∀ p, p < figs (A 17 0 s) → d.1 (38 + s) p = nI (dig (A 17 0 s) p)) ∧
  (∀ g, g < 4 → d.1 90 g = nI (A 18 0 g) ∧ d.1 91 g = nI (A 19 0 g) ∧ d.1 92 g = nI (A 20 0 g)) ∧ (∀ D, D < A 11 0 0 → RepG A d D (277 + 4 * D))
def isShape (n : Nat) : Prop := 1 ≤ n ∧ n ≤ 4444 ∧ ∀ p, p < figs n → 1 ≤ dig n p ∧ dig n p ≤ 4
def WF (A : St) : Prop :=
  A 0 0 0 ≤ 4 ∧ (∀ k, k < A 0 0 0 → A 1 0 k < 972) ∧ A 2 0 0 ≤ 20 ∧ (∀ w, w < A 2 0 0 → 1 ≤ A 3 0 w ∧ A 3 0 w ≤ 4 ∧ 1 ≤ A 5 0 w ∧ A 5 0 w ≤ 999 ∧ ∀ k, k < A 3 0 w → A 4 w k < 972) ∧
  (∀ x, x < 3 → A 6 0 x ≤ 6 ∧ ∀ c, c < A 6 0 x → A 7 x c < 4 ∧ A 8 x c < vals (A 7 x c) ∧ A 9 x c < vals (A 7 x c) ∧ A 10 x c ≤ 1) ∧
  A 11 0 0 ≤ 5 ∧ (∀ D, D < A 11 0 0 → A 12 0 D ≤ 1 ∧ A 13 0 D ≤ 3 ∧ (∀ u, u < 47 → A 14 D u < 50) ∧ (∀ t, t < 3 → A 15 D t ≤ 1) ∧ ∀ s, s < 50 → A 16 D s < 50) ∧ (∀ s, s < 50 → isShape (A 17 0 s)) ∧ (∀ g, g < 4 → A 18 0 g ≤ 999 ∧ A 19 0 g ≤ 999 ∧ A 20 0 g < 3)
/-- cells that class calls leave -/
def FrC (d d' : Dt) : Prop := ∀ k, 265 ≤ k → k ≤ 276 → d'.1 k = d.1 k ∧ d'.2 k = d.2 k
/-- scratch of the class alone -/
def FrS (d d' : Dt) : Prop := ∀ k, k < 35 ∨ (36 ≤ k ∧ k ≤ 88) ∨ (90 ≤ k ∧ k ≤ 92) ∨ 184 ≤ k → d'.1 k = d.1 k ∧ d'.2 k = d.2 k
/-- whatever lies in the same cells below 265 but for scratch, and above 276 -/
theorem RepC.scr {A : St} {d d' : Dt} (h : RepC A d) (hw20 : A 2 0 0 ≤ 20) (F : ∀ k, k < 35 ∨ (36 ≤ k ∧ k ≤ 88) ∨ (90 ≤ k ∧ k ≤ 92) ∨ (184 ≤ k ∧ k ≤ 264) ∨ 277 ≤ k → d'.1 k = d.1 k) : RepC A d' := by
  obtain ⟨h1, h2, h3, h4, h5, h6, h7, h8, h9⟩ := h
  refine ⟨by rw [F 1 (by omega)]; exact h1, fun k hk => by rw [F 2 (by omega)]; exact h2 k hk, fun k hk => by rw [F 3 (by omega)]; exact h3 k hk, by rw [F 1 (by omega)]; exact h4, by rw [F 0 (by omega)]; exact h5, fun b hb => ?_, fun s hs => ?_, fun g hg => ?_, fun D hD => ?_⟩
  · have hx : dlx b = 4 ∨ dlx b = 184 ∨ dlx b = 211 ∨ dlx b = 238 := (by decide : ∀ b, b < 4 → dlx b = 4 ∨ dlx b = 184 ∨ dlx b = 211 ∨ dlx b = 238) b hb
    obtain ⟨g1, g2, g3, g4, g5⟩ := h6 b hb
    have e : ∀ j, j < 27 → d'.1 (dlx b + j) = d.1 (dlx b + j) := fun j hj => F _ (by omega)
    have e0 : d'.1 (dlx b) = d.1 (dlx b) := e 0 (by omega)
    refine ⟨by rw [e0]; exact g1, fun w hw => by rw [e 26 (by omega)]; exact g2 w hw, fun w hw k hk => ?_, fun hb0 => by rw [e0]; exact g4 hb0, fun hb0 => ⟨by rw [e0]; exact (g5 hb0).1, fun c hc => ?_⟩⟩
    · rw [Nat.add_assoc, e (6 + w) (by omega), ← Nat.add_assoc]; exact g3 w hw k hk
    · rw [e 1 (by omega), e 2 (by omega), e 3 (by omega), e 4 (by omega)]; exact (g5 hb0).2 c hc
  · rw [F 36 (by omega), F 88 (by omega), F (38 + s) (by omega)]; exact h7 s hs
  · rw [F 90 (by omega), F 91 (by omega), F 92 (by omega)]; exact h8 g hg
  · obtain ⟨g1, g2, g3, g4, g5⟩ := h9 D hD
    refine ⟨by rw [F (277 + 4 * D) (by omega)]; exact g1, by rw [F (277 + 4 * D) (by omega)]; exact g2, fun u hu => by rw [F (277 + 4 * D + 1) (by omega)]; exact g3 u hu, fun u hu => by rw [F (277 + 4 * D + 2) (by omega)]; exact g4 u hu, fun u hu => by rw [F (277 + 4 * D + 3) (by omega)]; exact g5 u hu⟩
