/-! the model: scores and votes -/
def wtS (A : St) : Nat := sumR (fun w => A 5 0 w) (A 2 0 0)
def strS (A : St) (D : Nat) : Nat := sumR (fun w => sumR (fun k => A 5 0 w * figs (A 17 0 ((own A D w).getD k 0))) (own A D w).length) (A 2 0 0)
def scS (A : St) (g D : Nat) : Nat := loadS A D * (A 19 0 g / 100) + strS A D / 100 * (A 19 0 g / 10 % 10) + (wtS A - fitS A D (A 20 0 g + 1)) * (A 19 0 g % 10)
theorem loadS_le {A : St} (hW : WF A) (D : Nat) : loadS A D ≤ 19980 := by
  have h := sumR_le (g := fun w => if anyR (ahead A D w) (A 2 0 0) = true then A 5 0 w else 0) (n := A 2 0 0) (c := 999) (fun u hu => ite_le (wt_lt hW hu) (Nat.zero_le _))
  have := hW.words
  unfold loadS; omega
theorem wtS_le {A : St} (hW : WF A) : wtS A ≤ 19980 := by
  have h := sumR_le (g := fun w => A 5 0 w) (n := A 2 0 0) (c := 999) (fun u hu => wt_lt hW hu)
  have := hW.words
  unfold wtS; omega
theorem sumR_mono {g h : Nat → Nat} {n : Nat} (e : ∀ u, u < n → g u ≤ h u) : sumR g n ≤ sumR h n := by
  induction n with
  | zero => exact Nat.le_refl _
  | succ n ih => simp only [sumR]; exact Nat.add_le_add (ih (fun u hu => e u (by omega))) (e n (by omega))
theorem fitS_le (A : St) (D b : Nat) : fitS A D b ≤ wtS A := sumR_mono (fun u _ => ite_le (Nat.le_refl _) (Nat.zero_le _))
theorem strS_le {A : St} (hW : WF A) {D : Nat} (hD : D < A 11 0 0) : strS A D ≤ 1278720 := by
  have h1 : ∀ w, w < A 2 0 0 → sumR (fun k => A 5 0 w * figs (A 17 0 ((own A D w).getD k 0))) (own A D w).length ≤ 63936 := fun w hw => by
    have h2 := sumR_le (g := fun k => A 5 0 w * figs (A 17 0 ((own A D w).getD k 0))) (n := (own A D w).length) (c := 999 * 4) (fun u _ => Nat.mul_le_mul (wt_lt hW hw) (figs_le (shp hW (own_lt hW hD hw u)).2).2)
    have hl := (own_len hW D hw).2
    have h3 : (own A D w).length * (999 * 4) ≤ 16 * (999 * 4) := Nat.mul_le_mul_right _ hl
    omega
  have h := sumR_le h1
  have h4 : A 2 0 0 * 63936 ≤ 20 * 63936 := Nat.mul_le_mul_right _ hW.words
  unfold strS; omega
theorem scS_le {A : St} (hW : WF A) {g D : Nat} (hg : g < 4) (hD : D < A 11 0 0) : scS A g D ≤ 1000000 := by
  have h1 := loadS_le hW D
  have h2 := wtS_le hW
  have h3 := strS_le hW hD
  have h4 := (hW.g hg).2.1
  have e1 : loadS A D * (A 19 0 g / 100) ≤ 19980 * 9 := Nat.mul_le_mul h1 (by omega)
  have e2 : strS A D / 100 * (A 19 0 g / 10 % 10) ≤ 12788 * 9 := Nat.mul_le_mul (by omega) (by omega)
  have e3 : (wtS A - fitS A D (A 20 0 g + 1)) * (A 19 0 g % 10) ≤ 19980 * 9 := Nat.mul_le_mul (by omega) (by omega)
  unfold scS; omega

def o_score (A : St) (g D : Int32) : Res := if ix g 4 = true ∧ ix D (A 11 0 0) = true then (0, nI (scS A g.toNatClampNeg D.toNatClampNeg), A) else o_bad A 1
/-- for which one of a set of designs a group is -/
def forI (A : St) (g set : Nat) (acc : Nat × Nat) (D : Nat) : Nat × Nat := if (set.testBit D && (decide (acc.1 = 0) || decide (scS A g D < acc.2))) = true then (D + 1, scS A g D) else acc
def forS (A : St) (g set : Nat) : Nat × Nat := foldR (forI A g set) (0, 0) (A 11 0 0)
theorem forI_le {A : St} (hW : WF A) {g set : Nat} (hg : g < 4) : ∀ n, n ≤ A 11 0 0 → (foldR (forI A g set) (0, 0) n).1 ≤ n ∧ (foldR (forI A g set) (0, 0) n).2 ≤ 1000000 := by
  intro n
  induction n with
  | zero => intro _; exact ⟨Nat.le_refl _, Nat.zero_le _⟩
  | succ n ih =>
    intro hn
    have h := ih (by omega)
    have hs := scS_le hW hg (show n < A 11 0 0 by omega)
    show (forI A g set (foldR (forI A g set) (0, 0) n) n).1 ≤ _ ∧ (forI A g set (foldR (forI A g set) (0, 0) n) n).2 ≤ _
    generalize foldR (forI A g set) (0, 0) n = acc at h ⊢
    unfold forI
    split
    · exact ⟨Nat.le_refl _, hs⟩
    · exact ⟨by omega, h.2⟩
theorem b5 {k s : Nat} (hk : k < 5) (hs : s < 32) : (nI s >>> (nI k &&& nI 31)) &&& nI 1 = nI (if s.testBit k = true then 1 else 0) := b10 (by omega) (by omega)

def votS (A : St) (D set : Nat) : Nat := sumR (fun g => if (forS A g set).1 = D + 1 then A 18 0 g else 0) 4
theorem votS_le {A : St} (hW : WF A) (D set : Nat) : votS A D set ≤ 3996 := sumR_le (g := fun g => if (forS A g set).1 = D + 1 then A 18 0 g else 0) (n := 4) (c := 999) (fun u hu => ite_le (hW.g hu).1 (Nat.zero_le _))
theorem forS_le {A : St} (hW : WF A) {g set : Nat} (hg : g < 4) : (forS A g set).1 ≤ 5 := by
  have h := forI_le hW (set := set) hg (A 11 0 0) (Nat.le_refl _)
  have := hW.des
  unfold forS; omega
theorem dI_eqN {a D : Nat} (ha : a ≤ 5) (hD : D < 5) : (dI a = nI D) = (a = D + 1) := by
  by_cases e : a = 0
  · subst e
    rw [dI_0, NO_n2 (by omega)]
    exact (eq_false (by omega)).symm
  · rw [dI_s _ (by omega), nI_eqJ (by omega) (by omega)]
    exact propext ⟨fun h => by omega, fun h => by omega⟩

def o_votes (A : St) (D : Int32) : Res := if ix D (A 11 0 0) = true then (0, nI (votS A D.toNatClampNeg (2 ^ A 11 0 0 - 1)), A) else o_bad A 1
def ppS (A : St) : Nat := sumR (fun g => A 18 0 g) 4
theorem ppS_le {A : St} (hW : WF A) : ppS A ≤ 3996 := sumR_le (g := fun g => A 18 0 g) (n := 4) (c := 999) (fun u hu => (hW.g hu).1)
def fewI (A : St) (set : Nat) (acc : Nat × Nat) (D : Nat) : Nat × Nat := if (set.testBit D && (decide (acc.1 = 0) || decide (votS A D set ≤ acc.2))) = true then (D + 1, votS A D set) else acc
def fewS (A : St) (set n : Nat) : Nat × Nat := foldR (fewI A set) (0, 0) n
def hitK (A : St) (set n : Nat) : Nat := foldR (fun h D => if h ≠ 0 then h else if ppS A < 2 * votS A D set then D + 1 else 0) 0 n
def elS (A : St) : Nat → Nat → Nat
  | 0, _ => 0
  | r + 1, set => if set = 0 then 0 else if hitK A set (A 11 0 0) ≠ 0 then hitK A set (A 11 0 0) else elS A r (set - 2 ^ ((fewS A set (A 11 0 0)).1 - 1))
theorem hit_stay {A : St} {set n : Nat} (h : hitK A set n ≠ 0) : ∀ m, hitK A set (n + m) = hitK A set n := by
  intro m
  induction m with
  | zero => rfl
  | succ m ih =>
    show (if hitK A set (n + m) ≠ 0 then hitK A set (n + m) else _) = _
    rw [ih, if_pos h]
theorem few_is (A : St) (set : Nat) : ∀ n, ((fewS A set n).1 = 0 ∧ (∀ k, k < n → set.testBit k = false)) ∨ ∃ k, k < n ∧ set.testBit k = true ∧ (fewS A set n).1 = k + 1 ∧ (fewS A set n).2 = votS A k set := by
  intro n
  induction n with
  | zero => exact Or.inl ⟨rfl, fun k hk => by omega⟩
  | succ n ih =>
    have e : fewS A set (n + 1) = fewI A set (fewS A set n) n := rfl
    rw [e]
    by_cases hc : (set.testBit n && (decide ((fewS A set n).1 = 0) || decide (votS A n set ≤ (fewS A set n).2))) = true
    · right
      refine ⟨n, by omega, ?_, ?_, ?_⟩
      · simp only [Bool.and_eq_true] at hc; exact hc.1
      · unfold fewI; rw [if_pos hc]
      · unfold fewI; rw [if_pos hc]
    · have e2 : fewI A set (fewS A set n) n = fewS A set n := by unfold fewI; rw [if_neg hc]
      rw [e2]
      rcases ih with ⟨h1, h2⟩ | ⟨k, h1, h2, h3, h4⟩
      · left
        refine ⟨h1, fun k hk => ?_⟩
        by_cases e3 : k = n
        · subst e3
          cases hb : set.testBit k
          · rfl
          · rw [hb, h1] at hc; exact absurd (by simp) hc
        · exact h2 k (by omega)
      · exact Or.inr ⟨k, by omega, h2, h3, h4⟩

def o_elected (A : St) : Res := if A 11 0 0 = 0 then o_bad A 1 else (0, (if ppS A = 0 then NO else dI (elS A 32 (2 ^ A 11 0 0 - 1))), A)
