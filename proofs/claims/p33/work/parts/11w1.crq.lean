/-! one round is one syllable more -/
theorem sy0_1 {A : St} {D : Nat} (g : Nat → Nat) (hk : A 12 0 D = 0) : syS A D g 1 = un A D 8 4 (g 0) * tnU A D := by
  simp [syS, sumR, syH, syP, hk]
theorem sy0_2 {A : St} {D : Nat} (g : Nat → Nat) (hk : A 12 0 D = 0) : syS A D g 2 = un A D 0 8 (g 0) * un A D 8 4 (g 1) * tnU A D + un A D 8 4 (g 0) * tnM A D (g 1) + un A D 8 4 (g 0) * tnU A D * un A D 0 8 (g 1) := by
  simp [syS, sumR, syH, syP, hk]
theorem sy0_3 {A : St} {D : Nat} (g : Nat → Nat) (hk : A 12 0 D = 0) : syS A D g 3 = un A D 0 8 (g 0) * un A D 8 4 (g 1) * tnM A D (g 2) + un A D 0 8 (g 0) * un A D 8 4 (g 1) * tnU A D * un A D 0 8 (g 2) + un A D 8 4 (g 0) * tnM A D (g 1) * un A D 0 8 (g 2) := by
  simp [syS, sumR, syH, syP, hk]
theorem sy0_4 {A : St} {D : Nat} (g : Nat → Nat) (hk : A 12 0 D = 0) : syS A D g 4 = un A D 0 8 (g 0) * un A D 8 4 (g 1) * tnM A D (g 2) * un A D 0 8 (g 3) := by
  simp [syS, sumR, syH, syP, hk]
theorem sy1_1 {A : St} {D : Nat} (g : Nat → Nat) (hk : A 12 0 D ≠ 0) : syS A D g 1 = un A D 0 36 (g 0) * tnU A D := by
  simp [syS, sumR, syH, syP, hk]
theorem sy1_2 {A : St} {D : Nat} (g : Nat → Nat) (hk : A 12 0 D ≠ 0) : syS A D g 2 = un A D 0 36 (g 0) * tnM A D (g 1) + un A D 0 36 (g 0) * tnU A D * un A D 36 8 (g 1) := by
  simp [syS, sumR, syH, syP, hk]
theorem sy1_3 {A : St} {D : Nat} (g : Nat → Nat) (hk : A 12 0 D ≠ 0) : syS A D g 3 = un A D 0 36 (g 0) * tnM A D (g 1) * un A D 36 8 (g 2) := by
  simp [syS, sumR, syH, syP, hk]
theorem sy1_4 {A : St} {D : Nat} (g : Nat → Nat) (hk : A 12 0 D ≠ 0) : syS A D g 4 = 0 := by
  simp [syS, sumR, syH, syP, hk]
/-- a sum's last four -/
theorem sum_tail {f : Nat → Nat} {e n : Nat} (hn : e ≤ n) (h : ∀ k, e ≤ k → f k = 0) : sumR f n = sumR f e := by
  obtain ⟨m, rfl⟩ : ∃ m, n = e + m := ⟨n - e, by omega⟩
  clear hn
  induction m with
  | zero => rfl
  | succ m ih => show sumR f (e + m) + f (e + m) = _; rw [ih, h _ (by omega), Nat.add_zero]
theorem sum_head {f : Nat → Nat} {e : Nat} (h : ∀ k, k < e → f k = 0) : sumR f e = 0 := by
  rw [sumR_cg h]; exact sumR_0 e
theorem rdT_j {A : St} {D : Nat} {l : List Nat} {k j : Nat} (h1 : 0 < j) (h4 : j ≤ 4) (hl : k + j ≤ l.length) : rdT A D l k (k + j) = syS A D (fun x => l.getD (k + x) 0) j := by
  unfold rdT
  rw [if_pos ⟨by omega, by omega, hl⟩, Nat.add_sub_cancel_left]
theorem rnd_eq (A : St) (D : Nat) (l : List Nat) (W : Nat → Nat) {e : Nat} (he : e ≤ l.length) : wnF A D l (tnF A D l (hdF A D l W)) e = sumR (fun k => W k * rdT A D l k e) l.length := by
  rw [sum_tail (e := e) he (fun k hk => by unfold rdT; rw [if_neg (by omega), Nat.mul_zero])]
  have far : ∀ e', e = e' + 4 → sumR (fun k => W k * rdT A D l k e) e' = 0 := fun e' h => sum_head (fun k hk => by unfold rdT; rw [if_neg (by omega), Nat.mul_zero])
  rcases (show e = 0 ∨ e = 1 ∨ e = 2 ∨ e = 3 ∨ ∃ e', e = e' + 4 from by
    rcases Nat.lt_or_ge e 4 with h | h
    · omega
    · exact Or.inr (Or.inr (Or.inr (Or.inr ⟨e - 4, by omega⟩)))) with rfl | rfl | rfl | rfl | ⟨e', rfl⟩
  · simp [wnF, tnF, hdF, sumR]
  · have t1 := rdT_j (A := A) (D := D) (l := l) (k := 0) (j := 1) (by omega) (by omega) (by omega)
    simp only [sumR, t1, Nat.zero_add]
    by_cases hk : A 12 0 D = 0
    · rw [sy0_1 _ hk]; simp [wnF, tnF, hdF, hk, Nat.mul_assoc]
    · rw [sy1_1 _ hk]; simp [wnF, tnF, hdF, hk, Nat.mul_assoc]
  · have t1 := rdT_j (A := A) (D := D) (l := l) (k := 0) (j := 2) (by omega) (by omega) (by omega)
    have t2 := rdT_j (A := A) (D := D) (l := l) (k := 1) (j := 1) (by omega) (by omega) (by omega)
    simp only [sumR, t1, t2, Nat.zero_add]
    by_cases hk : A 12 0 D = 0
    · rw [sy0_1 _ hk, sy0_2 _ hk]; simp [wnF, tnF, hdF, hk]; grind
    · rw [sy1_1 _ hk, sy1_2 _ hk]; simp [wnF, tnF, hdF, hk]; grind
  · have t1 := rdT_j (A := A) (D := D) (l := l) (k := 0) (j := 3) (by omega) (by omega) (by omega)
    have t2 := rdT_j (A := A) (D := D) (l := l) (k := 1) (j := 2) (by omega) (by omega) (by omega)
    have t3 := rdT_j (A := A) (D := D) (l := l) (k := 2) (j := 1) (by omega) (by omega) (by omega)
    simp only [sumR, t1, t2, t3, Nat.zero_add]
    by_cases hk : A 12 0 D = 0
    · rw [sy0_1 _ hk, sy0_2 _ hk, sy0_3 _ hk]; simp [wnF, tnF, hdF, hk]; grind
    · rw [sy1_1 _ hk, sy1_2 _ hk, sy1_3 _ hk]; simp [wnF, tnF, hdF, hk]; grind
  · have t1 : rdT A D l e' (e' + 4) = syS A D (fun x => l.getD (e' + x) 0) 4 := rdT_j (by omega) (by omega) he
    have t2 : rdT A D l (e' + 1) (e' + 4) = syS A D (fun x => l.getD (e' + 1 + x) 0) 3 := rdT_j (k := e' + 1) (j := 3) (by omega) (by omega) he
    have t3 : rdT A D l (e' + 2) (e' + 4) = syS A D (fun x => l.getD (e' + 2 + x) 0) 2 := rdT_j (k := e' + 2) (j := 2) (by omega) (by omega) he
    have t4 : rdT A D l (e' + 3) (e' + 4) = syS A D (fun x => l.getD (e' + 3 + x) 0) 1 := rdT_j (k := e' + 3) (j := 1) (by omega) (by omega) he
    have hf := far e' rfl
    show _ = sumR (fun k => W k * rdT A D l k (e' + 4)) e' + W e' * rdT A D l e' (e' + 4) + W (e' + 1) * rdT A D l (e' + 1) (e' + 4) + W (e' + 2) * rdT A D l (e' + 2) (e' + 4) + W (e' + 3) * rdT A D l (e' + 3) (e' + 4)
    rw [hf, t1, t2, t3, t4, Nat.zero_add]
    by_cases hk : A 12 0 D = 0
    · rw [sy0_1 _ hk, sy0_2 _ hk, sy0_3 _ hk, sy0_4 _ hk]
      simp only [wnF, tnF, hdF, hk, if_true]
      rw [if_pos (by omega), if_pos (by omega), if_pos (by omega)]
      simp only [Nat.add_sub_cancel, Nat.add_assoc, Nat.reduceAdd, Nat.add_zero, show e' + 1 - 1 = e' from rfl, show e' + 2 - 1 = e' + 1 from rfl, show e' + 3 - 1 = e' + 2 from rfl]
      grind
    · rw [sy1_1 _ hk, sy1_2 _ hk, sy1_3 _ hk, sy1_4 _ hk]
      simp only [wnF, tnF, hdF, hk, if_false]
      simp only [Nat.add_assoc, Nat.reduceAdd, Nat.add_zero]
      grind
