/-! the model: how many syllables are spelled so -/
def un (A : St) (D a m s : Nat) : Nat := cntR (fun u => decide (A 14 D u = s)) a m
def tnM (A : St) (D s : Nat) : Nat := cntR (fun t => decide (A 15 D t ≠ 0) && decide (A 14 D (44 + t) = s)) 0 3
def tnU (A : St) (D : Nat) : Nat := cntR (fun t => decide (A 15 D t = 0)) 0 3
/-- the syllables with an onset or none, a mark or none, a coda or none -/
def syP (A : St) (D : Nat) (g : Nat → Nat) (o t c : Nat) : Nat :=
  (if o = 1 then un A D 0 8 (g 0) else 1) * (if A 12 0 D = 0 then un A D 8 4 (g o) else un A D 0 36 (g o)) * (if t = 1 then tnM A D (g (o + 1)) else tnU A D) * (if c = 0 then 1 else if A 12 0 D = 0 then un A D 0 8 (g (o + 1 + t)) else un A D 36 8 (g (o + 1 + t)))
def syH (A : St) (D : Nat) (g : Nat → Nat) (j o t c : Nat) : Nat := if (if A 12 0 D = 0 then o else 0) + 1 + t + c = j ∧ (A 12 0 D = 0 ∨ o = 0) then syP A D g o t c else 0
def syS (A : St) (D : Nat) (g : Nat → Nat) (j : Nat) : Nat := sumR (fun h => syH A D g j (h % 2) (h / 2 % 2) (h / 4)) 8
theorem un_le (A : St) (D a m s : Nat) : un A D a m s ≤ m := cntR_le _ _ _
theorem tnM_le (A : St) (D s : Nat) : tnM A D s ≤ 3 := cntR_le _ _ _
theorem tnU_le (A : St) (D : Nat) : tnU A D ≤ 3 := cntR_le _ _ _
theorem mul4_le {a b c d a' b' c' d' : Nat} (h1 : a ≤ a') (h2 : b ≤ b') (h3 : c ≤ c') (h4 : d ≤ d') : a * b * c * d ≤ a' * b' * c' * d' := Nat.mul_le_mul (Nat.mul_le_mul (Nat.mul_le_mul h1 h2) h3) h4
theorem syP_le (A : St) (D : Nat) (g : Nat → Nat) (o t c : Nat) : syP A D g o t c ≤ 6912 := by
  unfold syP
  refine mul4_le (a' := 8) (b' := 36) (c' := 3) (d' := 8) ?_ ?_ ?_ ?_
  · split
    · exact un_le _ _ _ _ _
    · omega
  · split
    · exact Nat.le_trans (un_le _ _ _ _ _) (by omega)
    · exact un_le _ _ _ _ _
  · split
    · exact tnM_le _ _ _
    · exact tnU_le _ _
  · split
    · omega
    · split <;> exact un_le _ _ _ _ _
theorem ite_le {c : Prop} [Decidable c] {a b m : Nat} (ha : a ≤ m) (hb : b ≤ m) : (if c then a else b) ≤ m := by split <;> assumption
theorem syS_le (A : St) (D : Nat) (g : Nat → Nat) (j : Nat) : syS A D g j ≤ 55296 := by
  have h := sumR_le (g := fun h => syH A D g j (h % 2) (h / 2 % 2) (h / 4)) (n := 8) (c := 6912) (fun u _ => by
    show syH A D g j (u % 2) (u / 2 % 2) (u / 4) ≤ 6912
    exact ite_le (syP_le _ _ _ _ _ _) (Nat.zero_le _))
  exact h
theorem isU_0 {k u : Nat} (hk : k = 0) (hu : u ≤ 11) : isU k u = true := by subst hk; simp [isU]; omega
theorem isU_1 {k u : Nat} (hk : k ≠ 0) (hu : u ≤ 43) : isU k u = true := by simp [isU, hk]; omega
