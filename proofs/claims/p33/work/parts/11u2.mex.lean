/-! the model: travel and exchange -/

theorem travK_le {A : St} (hW : WF A) {D : Nat} {K : Nat → Nat} (hK : ∀ s, s < 50 → K s < 50) (hD : D < A 11 0 0) : travK A D K ≤ 15000000 := by
  have h1 : ∀ w, w < A 2 0 0 → sumR (fun k => A 5 0 w * adf (K ((own A D w).getD (k + 1) 0)) (K ((own A D w).getD k 0))) ((own A D w).length - 1) ≤ 734265 := fun w hw => by
    have h2 := sumR_le (g := fun k => A 5 0 w * adf (K ((own A D w).getD (k + 1) 0)) (K ((own A D w).getD k 0))) (n := (own A D w).length - 1) (c := 999 * 49) (fun u _ => by
      refine Nat.mul_le_mul (wt_lt hW hw) ?_
      have t1 := hK _ (own_lt hW hD hw u)
      have t2 := hK _ (own_lt hW hD hw (u + 1))
      unfold adf
      split <;> omega)
    have hl := (own_len hW D hw).2
    have h3 : ((own A D w).length - 1) * (999 * 49) ≤ 15 * (999 * 49) := Nat.mul_le_mul_right _ (by omega)
    omega
  have h := sumR_le h1
  have h4 : A 2 0 0 * 734265 ≤ 20 * 734265 := Nat.mul_le_mul_right _ hW.words
  unfold travK; omega
def o_travel (A : St) (D : Int32) : Res := if ix D (A 11 0 0) = true then (0, nI (travK A D.toNatClampNeg (A 16 D.toNatClampNeg)), A) else o_bad A 1
def swK (K : Nat → Nat) (a b s : Nat) : Nat := if s = a then K b else if s = b then K a else K s
theorem swK_lt {K : Nat → Nat} (hK : ∀ s, s < 50 → K s < 50) {a b : Nat} (ha : a < 50) (hb : b < 50) : ∀ s, s < 50 → swK K a b s < 50 := by
  intro s hs
  unfold swK
  split
  · exact hK b hb
  · split
    · exact hK a ha
    · exact hK s hs
def exI (A : St) (D : Nat) (acc : Nat × Nat) (a b : Nat) : Nat × Nat := if acc.1 ≤ travK A D (swK (A 16 D) a b) then acc else (travK A D (swK (A 16 D) a b), 100 * a + b + 1)
def exK (A : St) (D k : Nat) (acc : Nat × Nat) (n : Nat) : Nat × Nat := foldR (fun acc i => exI A D acc (usd A D k) (usd A D (k + 1 + i))) acc n
def exS (A : St) (D : Nat) : Nat × Nat := foldR (fun acc k => exK A D k acc ((usL (allS A D)).length - 1 - k)) (travK A D (A 16 D), 0) (usL (allS A D)).length
theorem exI_le {A : St} {D a b : Nat} {acc : Nat × Nat} (h : acc.1 ≤ 15000000 ∧ acc.2 ≤ 5000) (ha : a < 50) (hb : b < 50) : (exI A D acc a b).1 ≤ 15000000 ∧ (exI A D acc a b).2 ≤ 5000 := by
  unfold exI
  split
  · exact h
  · exact ⟨by show travK A D (swK (A 16 D) a b) ≤ _; omega, by show 100 * a + b + 1 ≤ 5000; omega⟩
theorem exK_le {A : St} {D k : Nat} {acc : Nat × Nat} (h : acc.1 ≤ 15000000 ∧ acc.2 ≤ 5000) : ∀ n, (exK A D k acc n).1 ≤ 15000000 ∧ (exK A D k acc n).2 ≤ 5000 := by
  intro n
  induction n with
  | zero => exact h
  | succ n ih => exact exI_le ih (usL_lt _ _) (usL_lt _ _)
theorem exS_le {A : St} (hW : WF A) {D : Nat} (hD : D < A 11 0 0) : ∀ n, (foldR (fun acc k => exK A D k acc ((usL (allS A D)).length - 1 - k)) (travK A D (A 16 D), 0) n).1 ≤ 15000000 ∧ (foldR (fun acc k => exK A D k acc ((usL (allS A D)).length - 1 - k)) (travK A D (A 16 D), 0) n).2 ≤ 5000 := by
  intro n
  induction n with
  | zero => exact ⟨travK_le hW (hW.G hD).2.2.2.2 hD, Nat.zero_le _⟩
  | succ n ih => exact exK_le ih _
theorem usF_rise {m : Nat} : ∀ n i j, i < j → j < (usF m n).length → (usF m n).getD i 0 < (usF m n).getD j 0 := by
  intro n
  induction n with
  | zero => intro i j _ h; simp [usF] at h
  | succ n ih =>
    intro i j hij h
    rw [usF_s] at h ⊢
    split at h
    · next hb =>
      rw [if_pos hb]
      rw [List.length_append, List.length_cons, List.length_nil] at h
      simp only [List.getD_eq_getElem?_getD] at ih ⊢
      rw [List.getElem?_append_left (show i < (usF m n).length by omega)]
      by_cases e : j < (usF m n).length
      · rw [List.getElem?_append_left e]; exact ih i j hij e
      · have ej : j = (usF m n).length := by omega
        subst ej
        rw [List.getElem?_append_right (Nat.le_refl _), Nat.sub_self]
        have hm := getD_mem (l := usF m n) (i := i) hij
        rw [List.getD_eq_getElem?_getD] at hm
        exact (usF_mem.mp hm).1
    · next hb => rw [if_neg hb]; exact ih i j hij h

def o_exchange (A : St) (D : Int32) : Res := if ix D (A 11 0 0) = true then (0, dI (exS A D.toNatClampNeg).2, A) else o_bad A 1
