/-! readings by all codes, from the end: what they come to -/
/-- what a code brings at place k -/
def cT (A : St) (D : Nat) (l : List Nat) (F : Nat → Nat) (k c : Nat) : Nat := if (l.drop k).take (syl A D c).length = syl A D c then F (k + (syl A D c).length) else 0
theorem win_take {l : List Nat} {k j : Nat} (h : k + j ≤ l.length) : win (fun x => l.getD (k + x) 0) j = (l.drop k).take j := by
  apply List.ext_getElem
  · rw [win_len, List.length_take, List.length_drop]; omega
  · intro i h1 h2
    rw [win_len] at h1
    simp only [win, List.getElem_map, List.getElem_range, List.getElem_take, List.getElem_drop]
    rw [List.getD_eq_getElem?_getD, List.getElem?_eq_getElem (by omega)]
    rfl
theorem cT_j (A : St) (D : Nat) (l : List Nat) (F : Nat → Nat) {k : Nat} (hk : k ≤ l.length) (c : Nat) : cT A D l F k c = sumR (fun j => if k + (j + 1) ≤ l.length ∧ syl A D c = win (fun x => l.getD (k + x) 0) (j + 1) then F (k + (j + 1)) else 0) 4 := by
  have hl := syl_len A D c
  have key : ∀ j, (if k + (j + 1) ≤ l.length ∧ syl A D c = win (fun x => l.getD (k + x) 0) (j + 1) then F (k + (j + 1)) else 0) = if (syl A D c).length = j + 1 then cT A D l F k c else 0 := by
    intro j
    by_cases e : (syl A D c).length = j + 1
    · rw [if_pos e]
      unfold cT
      rw [e]
      by_cases h : k + (j + 1) ≤ l.length
      · rw [win_take h]
        by_cases h2 : (l.drop k).take (j + 1) = syl A D c
        · rw [if_pos ⟨h, h2.symm⟩, if_pos h2]
        · rw [if_neg (fun g => h2 g.2.symm), if_neg h2]
      · rw [if_neg (fun g => h g.1), if_neg]
        intro g
        have := congrArg List.length g
        rw [List.length_take, List.length_drop, e] at this
        omega
    · rw [if_neg e, if_neg]
      rintro ⟨-, g⟩
      have := congrArg List.length g
      rw [win_len] at this
      exact e this
  rw [sumR_cg (fun j _ => key j)]
  simp only [sumR]
  rcases (show (syl A D c).length = 1 ∨ (syl A D c).length = 2 ∨ (syl A D c).length = 3 ∨ (syl A D c).length = 4 by omega) with e | e | e | e <;> rw [e] <;> simp
theorem cT_sum (A : St) (D : Nat) (l : List Nat) (F : Nat → Nat) {k : Nat} (hk : k ≤ l.length) : sumR (cT A D l F k) 972 = sumR (fun e => rdT A D l k e * F e) (k + 5) := by
  rw [sumR_cg (fun c _ => cT_j A D l F hk c), sumR_swap]
  have e1 : ∀ j, j < 4 → sumR (fun c => if k + (j + 1) ≤ l.length ∧ syl A D c = win (fun x => l.getD (k + x) 0) (j + 1) then F (k + (j + 1)) else 0) 972 = rdT A D l k (k + (j + 1)) * F (k + (j + 1)) := by
    intro j hj
    by_cases h : k + (j + 1) ≤ l.length
    · rw [← std_T (by omega) (by omega) h]
      unfold cntS
      rw [← sumR_mulR]
      refine sumR_cg (fun c _ => ?_)
      by_cases h2 : syl A D c = win (fun x => l.getD (k + x) 0) (j + 1)
      · rw [if_pos ⟨h, h2⟩, if_pos h2, Nat.one_mul]
      · rw [if_neg (fun g => h2 g.2), if_neg h2, Nat.zero_mul]
    · have e0 : rdT A D l k (k + (j + 1)) = 0 := by unfold rdT; rw [if_neg (by omega)]
      rw [e0, Nat.zero_mul]
      rw [sumR_cg (h := fun _ => 0) (fun c _ => if_neg (fun g => h g.1)), sumR_0]
  rw [sumR_cg e1]
  have e0 : sumR (fun e => rdT A D l k e * F e) (k + 1) = 0 := sum_head (fun e he => by unfold rdT; rw [if_neg (by omega), Nat.zero_mul])
  show sumR (fun j => rdT A D l k (k + (j + 1)) * F (k + (j + 1))) 4 = sumR (fun e => rdT A D l k e * F e) (k + 1) + rdT A D l k (k + 1) * F (k + 1) + rdT A D l k (k + 2) * F (k + 2) + rdT A D l k (k + 3) * F (k + 3) + rdT A D l k (k + 4) * F (k + 4)
  rw [e0]
  simp only [sumR]
theorem bk_cT (A : St) (D : Nat) (l : List Nat) (n : Nat) {k : Nat} (hk : k ≤ l.length) : sumR (cT A D l (bkF A D l n) k) 972 = bkF A D l (n + 1) k := by
  rw [cT_sum A D l _ hk]
  exact bk_sum (Or.inl (by omega))
theorem bk_le (A : St) (D : Nat) (l : List Nat) : ∀ n k, k ≤ l.length → bkF A D l n k ≤ 972 ^ n := by
  intro n
  induction n with
  | zero => intro k _; show (if l.length = k then 1 else 0) ≤ 1; split <;> omega
  | succ n ih =>
    intro k hk
    rw [← bk_cT A D l n hk]
    have h : sumR (cT A D l (bkF A D l n) k) 972 ≤ 972 * 972 ^ n := sumR_le (fun c _ => by
      unfold cT
      split
      · rename_i h2
        have := congrArg List.length h2
        rw [List.length_take, List.length_drop] at this
        exact ih _ (by have := syl_len A D c; omega)
      · exact Nat.zero_le _)
    rw [Nat.pow_succ']
    exact h
theorem rdS_bk (A : St) (D : Nat) (l : List Nat) : sumR (fun n => bkF A D l (n + 1) 0) 4 = rdS A D l := sumR_cg (fun n _ => bk_eq A D l (n + 1))
theorem rdS_le (A : St) (D : Nat) (l : List Nat) : rdS A D l ≤ 972 ^ 4 * 4 := by
  rw [← rdS_bk]
  have h := sumR_le (g := fun n => bkF A D l (n + 1) 0) (n := 4) (c := 972 ^ 4) (fun n hn => Nat.le_trans (bk_le A D l (n + 1) 0 (Nat.zero_le _)) (Nat.pow_le_pow_right (by omega) (by omega)))
  rw [Nat.mul_comm]; exact h
/-- a spelling has a reading -/
theorem bk_pos {A : St} {D : Nat} {l : List Nat} {n k c : Nat} (hk : k ≤ l.length) (hc : c < 972) (h : (l.drop k).take (syl A D c).length = syl A D c) (hp : 0 < bkF A D l n (k + (syl A D c).length)) : 0 < bkF A D l (n + 1) k := by
  rw [← bk_cT A D l n hk]
  have h1 : ∀ m, c < m → 0 < sumR (cT A D l (bkF A D l n) k) m := by
    intro m
    induction m with
    | zero => intro h; omega
    | succ m ih =>
      intro hm
      simp only [sumR]
      by_cases e : c = m
      · subst e
        have : cT A D l (bkF A D l n) k c = bkF A D l n (k + (syl A D c).length) := by unfold cT; rw [if_pos h]
        omega
      · have := ih (by omega); omega
  exact h1 972 hc
theorem spl_rd {A : St} (hW : WF A) {D b w : Nat} (hb : b < 4) (hw : w < A 2 0 0) : ∀ m i, i + m = A 3 0 w → 0 < bkF A D (sp A D b w) m (spl A D b w i).length := by
  intro m
  induction m with
  | zero =>
    intro i hi
    obtain rfl : i = A 3 0 w := by omega
    show 0 < (if (sp A D b w).length = (spl A D b w (A 3 0 w)).length then 1 else 0)
    rw [if_pos (show (sp A D b w).length = (spl A D b w (A 3 0 w)).length from rfl)]; omega
  | succ m ih =>
    intro i hi
    have hc := spk_lt hW hb hw (show i < A 3 0 w by omega)
    have h2 : ∃ r, sp A D b w = spl A D b w i ++ (syl A D (spk A b w i) ++ r) := by
      have : ∀ j, i + 1 ≤ j → j ≤ A 3 0 w → ∃ r, spl A D b w j = spl A D b w (i + 1) ++ r := by
        intro j
        induction j with
        | zero => intro h _; omega
        | succ j ihj =>
          intro h h2
          by_cases e : i = j
          · subst e; exact ⟨[], by simp⟩
          · obtain ⟨r, hr⟩ := ihj (by omega) (by omega)
            exact ⟨r ++ syl A D (spk A b w j), by show spl A D b w j ++ _ = _; rw [hr, List.append_assoc]⟩
      obtain ⟨r, hr⟩ := this (A 3 0 w) (by omega) (Nat.le_refl _)
      refine ⟨r, ?_⟩
      show spl A D b w (A 3 0 w) = _
      rw [hr]
      show (spl A D b w i ++ syl A D (spk A b w i)) ++ r = _
      rw [List.append_assoc]
    obtain ⟨r, hr⟩ := h2
    refine bk_pos (c := spk A b w i) ?_ hc ?_ ?_
    · rw [hr, List.length_append]; omega
    · rw [hr, List.drop_left, List.take_left]
    · have := ih (i + 1) (by omega)
      rw [show (spl A D b w i).length + (syl A D (spk A b w i)).length = (spl A D b w (i + 1)).length by show _ = (spl A D b w i ++ syl A D (spk A b w i)).length; rw [List.length_append]]
      exact this
theorem rdS_pos {A : St} (hW : WF A) {D w : Nat} (hD : D < A 11 0 0) (hw : w < A 2 0 0) : 0 < rdS A D (own A D w) := by
  have hb := (hW.G hD).2.1
  have hn := hW.w hw
  have h := spl_rd hW (D := D) (show A 13 0 D < 4 by omega) hw (A 3 0 w) 0 (by omega)
  rw [← rdS_bk]
  have h2 : ∀ m, A 3 0 w ≤ m → 0 < sumR (fun n => bkF A D (own A D w) (n + 1) 0) m := by
    intro m
    induction m with
    | zero => intro h; omega
    | succ m ih =>
      intro hm
      simp only [sumR]
      by_cases e : A 3 0 w = m + 1
      · rw [e] at h
        have : 0 < bkF A D (own A D w) (m + 1) 0 := h
        omega
      · have := ih (by omega); omega
  exact h2 4 hn.2.1
