/-- may a design of kind k have this unit -/
def uOK (k : Nat) (x : Int32) : Bool := ix x (if k = 0 then 12 else 44) || (ix x 47 && !ix x 44)
theorem uOK_or (k : Nat) (x : Int32) : (∃ u, u < 47 ∧ isU k u = true ∧ x = nI u ∧ uOK k x = true) ∨ uOK k x = false := by
  cases h : uOK k x
  · exact Or.inr rfl
  · refine Or.inl ?_
    have hx : ∃ u, u < 47 ∧ x = nI u := by
      rcases ix_or x 47 (by decide) with ⟨n, hn, rfl, -⟩ | ⟨hi, hx⟩
      · exact ⟨n, hn, rfl⟩
      · rcases hx with hx | ⟨-, j, h1, h2, rfl⟩
        · simp [uOK, hi, ix_neg hx] at h
        · rw [uOK, hi, ix_f (show (if k = 0 then 12 else 44) ≤ j by split <;> omega) h2] at h; simp at h
    obtain ⟨u, hu, rfl⟩ := hx
    refine ⟨u, hu, ?_, rfl, rfl⟩
    rw [uOK, ix1 (by omega) (by split <;> omega), ix1 (by omega) (by omega), ix1 (by omega) (by omega)] at h
    simp [isU] at h ⊢
    omega
/-- another unit has the sign -/
def othU (A : St) (D u s : Nat) : Bool := decide (0 < cntR (fun o => decide (o ≠ u) && hasU A D s o) 0 47)
theorem othU_iff {A : St} {D u s : Nat} : othU A D u s = true ↔ ∃ o, o < 47 ∧ o ≠ u ∧ hasU A D s o = true := by
  unfold othU
  rw [decide_eq_true_iff, cntR_pos]
  simp
theorem cntR_rem {p : Nat → Bool} {u : Nat} : ∀ m, cntR p 0 m = cntR (fun o => decide (o ≠ u) && p o) 0 m + (if u < m ∧ p u = true then 1 else 0) := by
  intro m
  induction m with
  | zero => simp [cntR]
  | succ m ih =>
    simp only [cntR, ih, Nat.zero_add]
    by_cases e : m = u
    · subst e
      by_cases hp : p m = true
      · simp [hp]
      · simp [hp]
    · have e3 : (decide (m ≠ u) && p m) = p m := by simp [e]
      rw [e3]
      have e2 : (u < m + 1 ∧ p u = true) = (u < m ∧ p u = true) := by
        apply propext; constructor
        · rintro ⟨h1, h2⟩; exact ⟨by omega, h2⟩
        · rintro ⟨h1, h2⟩; exact ⟨by omega, h2⟩
      simp only [e2]
      omega
theorem oth_cnt {A : St} {D u s : Nat} (hu : u < 47) (hk : isU (A 12 0 D) u = true) : othU A D u s = decide ((if A 14 D u = s then 1 else 0) < cntR (hasU A D s) 0 47) := by
  have h1 := cntR_rem (p := hasU A D s) (u := u) 47
  have h4 : (u < 47 ∧ hasU A D s u = true) ↔ A 14 D u = s := by simp [hasU, hk, hu]
  unfold othU
  congr 1
  apply propext
  rw [h1]
  by_cases e : A 14 D u = s
  · rw [if_pos e, if_pos (h4.mpr e)]; omega
  · rw [if_neg e, if_neg (fun h => e (h4.mp h))]; omega
def o_assign (A : St) (D u s : Int32) (b : Nat) : Res := if (ix D (A 11 0 0) && uOK (A 12 0 D.toNatClampNeg) u) = false then (1, nI 0, A) else if ix s 50 = false then (2, nI 0, A) else if b = 0 ∧ othU A D.toNatClampNeg u.toNatClampNeg s.toNatClampNeg = true then (3, nI 0, A) else (0, nI (A 14 D.toNatClampNeg u.toNatClampNeg), stU A 14 D.toNatClampNeg u.toNatClampNeg s.toNatClampNeg)
