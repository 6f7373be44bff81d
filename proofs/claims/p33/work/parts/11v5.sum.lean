/-! sums -/
theorem sumR_0 (n : Nat) : sumR (fun _ => 0) n = 0 := by
  induction n with
  | zero => rfl
  | succ n ih => simp only [sumR, ih]
theorem sumR_add (f g : Nat → Nat) (n : Nat) : sumR (fun u => f u + g u) n = sumR f n + sumR g n := by
  induction n with
  | zero => rfl
  | succ n ih => simp only [sumR, ih]; omega
theorem sumR_mulL (c : Nat) (f : Nat → Nat) (n : Nat) : sumR (fun u => c * f u) n = c * sumR f n := by
  induction n with
  | zero => rfl
  | succ n ih => simp only [sumR, ih, Nat.mul_add]
theorem sumR_mulR (c : Nat) (f : Nat → Nat) (n : Nat) : sumR (fun u => f u * c) n = sumR f n * c := by
  induction n with
  | zero => simp [sumR]
  | succ n ih => simp only [sumR, ih, Nat.add_mul]
theorem sumR_swap (f : Nat → Nat → Nat) (m n : Nat) : sumR (fun s => sumR (fun w => f s w) n) m = sumR (fun w => sumR (fun s => f s w) m) n := by
  induction m with
  | zero => simp only [sumR]; exact (sumR_0 n).symm
  | succ m ih => simp only [sumR]; rw [ih, ← sumR_add]
theorem sumR_delta (c : Nat → Nat) (x : Nat) : ∀ n, sumR (fun s => if x = s then c s else 0) n = if x < n then c x else 0 := by
  intro n
  induction n with
  | zero => rfl
  | succ n ih =>
    simp only [sumR, ih]
    by_cases e : x = n
    · subst e; rw [if_neg (Nat.lt_irrefl _), if_pos rfl, if_pos (Nat.lt_succ_self _), Nat.zero_add]
    · rw [if_neg e]
      by_cases e2 : x < n
      · rw [if_pos e2, if_pos (by omega), Nat.add_zero]
      · rw [if_neg e2, if_neg (by omega)]
theorem sumR_if (p : Prop) [Decidable p] (f : Nat → Nat) (n : Nat) : (if p then sumR f n else 0) = sumR (fun u => if p then f u else 0) n := by
  by_cases h : p
  · simp only [h, if_true]
  · simp only [h, if_false, sumR_0]
/-! signs of spellings belong to the design -/
theorem isOf_iff {A : St} {D s : Nat} : isOfS A D s = true ↔ ∃ u, u < 47 ∧ isU (A 12 0 D) u = true ∧ A 14 D u = s := by
  unfold isOfS
  rw [decide_eq_true_iff, cntR_pos]
  simp only [Nat.zero_add, hasU, Bool.and_eq_true, decide_eq_true_iff]
theorem syl_of {A : St} {D : Nat} {c x : Nat} (hc : c < 972) (hx : x ∈ syl A D c) : isOfS A D x = true := by
  have b0 := of0 hc
  have b1 := of1 hc
  have b2 := of2 hc
  have b3 := of3 hc
  rw [isOf_iff]
  unfold syl at hx
  simp only [List.mem_append] at hx
  have tone : isU (A 12 0 D) (44 + ofc c 3) = true := by unfold isU; simp; omega
  rcases hx with (hx | hx) | hx
  · split at hx
    · next hk =>
      simp only [List.mem_append] at hx
      rcases hx with hx | hx
      · split at hx
        · cases hx
        · simp only [List.mem_singleton] at hx; exact ⟨ofc c 0, by omega, isU_0 hk (by omega), hx.symm⟩
      · simp only [List.mem_singleton] at hx; exact ⟨8 + ofc c 1, by omega, isU_0 hk (by omega), hx.symm⟩
    · next hk => simp only [List.mem_singleton] at hx; exact ⟨4 * ofc c 0 + ofc c 1, by omega, isU_1 hk (by omega), hx.symm⟩
  · split at hx
    · cases hx
    · simp only [List.mem_singleton] at hx; exact ⟨44 + ofc c 3, by omega, tone, hx.symm⟩
  · split at hx
    · cases hx
    · simp only [List.mem_singleton] at hx
      by_cases hk : A 12 0 D = 0
      · rw [if_pos hk] at hx; exact ⟨0 + ofc c 2, by omega, isU_0 hk (by omega), hx.symm⟩
      · rw [if_neg hk] at hx; exact ⟨36 + ofc c 2, by omega, isU_1 hk (by omega), hx.symm⟩
theorem spl_of {A : St} (hW : WF A) {D b w : Nat} (hb : b < 4) (hw : w < A 2 0 0) {x : Nat} : ∀ k, k ≤ A 3 0 w → x ∈ spl A D b w k → isOfS A D x = true := by
  intro k
  induction k with
  | zero => intro _ h; cases h
  | succ k ih =>
    intro hk h
    simp only [spl, List.mem_append] at h
    rcases h with h | h
    · exact ih (by omega) h
    · exact syl_of (spk_lt hW hb hw (by omega)) h
theorem own_of {A : St} (hW : WF A) {D w k : Nat} (hD : D < A 11 0 0) (hw : w < A 2 0 0) (hk : k < (own A D w).length) : isOfS A D ((own A D w).getD k 0) = true := spl_of hW (by have := (hW.G hD).2.1; omega) hw _ (Nat.le_refl _) (getD_mem hk)
/-- errors, summed over the words -/
theorem err_eq {A : St} (hW : WF A) {D far : Nat} (hD : D < A 11 0 0) : errS A D far = sumR (fun w => A 5 0 w * sumR (fun k => if anyR (takS A D far ((own A D w).getD k 0)) 50 = true then 1 else 0) (own A D w).length) (A 2 0 0) := by
  unfold errS
  have e1 : ∀ s, s < 50 → (if (isOfS A D s && anyR (takS A D far s) 50) = true then sumR (fun w => sumR (fun k => if (own A D w).getD k 0 = s then A 5 0 w else 0) (own A D w).length) (A 2 0 0) else 0) = sumR (fun w => sumR (fun k => if (own A D w).getD k 0 = s then (if (isOfS A D s && anyR (takS A D far s) 50) = true then A 5 0 w else 0) else 0) (own A D w).length) (A 2 0 0) := by
    intro s _
    rw [sumR_if]
    refine sumR_cg (fun w _ => ?_)
    rw [sumR_if]
    refine sumR_cg (fun k _ => ?_)
    by_cases h1 : (isOfS A D s && anyR (takS A D far s) 50) = true
    · simp only [h1, if_true]
    · simp only [h1, Bool.false_eq_true, if_false]
      split <;> rfl
  rw [sumR_cg e1, sumR_swap]
  refine sumR_cg (fun w hw => ?_)
  rw [sumR_swap, ← sumR_mulL]
  refine sumR_cg (fun k hk => ?_)
  rw [sumR_delta (fun s => if (isOfS A D s && anyR (takS A D far s) 50) = true then A 5 0 w else 0), if_pos (own_lt hW hD hw k), own_of hW hD hw hk, Bool.true_and]
  split <;> simp
